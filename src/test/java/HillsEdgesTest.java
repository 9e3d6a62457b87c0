/** The sentences of promises 1 to 8 that name a boundary, each with a test of its own. */
final class HillsEdgesTest {
    private static final Class<IndexOutOfBoundsException> INDEX = IndexOutOfBoundsException.class;
    private static final Class<IllegalArgumentException> ARGUMENT = IllegalArgumentException.class;
    private static final Class<IllegalStateException> STATE = IllegalStateException.class;

    private static final int[] LENGTHS = {1, 2, 4, 8, 16};

    private HillsEdgesTest() {
    }

    public static void main(String[] args) {
        promise1CodesOf8Chips();
        promise1WithoutHills();
        promise1WithoutStorms();
        promise2NoHillsThen();
        promise2StormsStay();
        promise2ReturnsLAsItWas();
        promise2PowerIsNot0To4();
        promise3OthersCanHaveItAsWell();
        promise3ReturnsItsNumber();
        promise3NoSuchCode();
        promise3StrengthIsNot1To9();
        promise3ThereAre8();
        promise4AddsToTheEnd();
        promise4NoSuchHill();
        promise4ItHas12();
        promise5TakesAllAway();
        promise5NoSuchHill();
        promise6FromNowOn();
        promise6NoSuchHill();
        promise6DelayIsNot0ToL();
        promise7FromNowOn();
        promise7NoSuchHill();
        promise7StrengthIsNot1To9();
        promise8FromNowOn();
        promise8PlaceIsNot0To19();
        promise8StormIsNot99();
        Check.end();
    }

    private static FlagChips withPower(int power) {
        FlagChips x = new FlagChips();
        x.setCodes(power);
        return x;
    }

    private static void sayTwelve(FlagChips x, int hill) {
        for (int word = 0; word < 12; word++) {
            x.say(hill, word % 5 != 0);
        }
    }

    /** "Creates codes of 8 chips". */
    private static void promise1CodesOf8Chips() {
        FlagChips x = new FlagChips();
        Check.due("L of a new object", x.count(0), 8);
        Check.due("codes that no hill has", x.count(6), 8);
        Check.due("chip(7, 7)", x.chip(7, 7), -1);
        Check.refuses(x, "chip(8, 7)", INDEX, () -> x.chip(8, 7));
        Check.refuses(x, "chip(7, 8)", INDEX, () -> x.chip(7, 8));
        Check.due("setCodes(3)", x.setCodes(3), 8);
    }

    /** "without hills": each call that takes one refuses hill 0. */
    private static void promise1WithoutHills() {
        FlagChips x = new FlagChips();
        Check.due("hills of a new object", x.count(1), 0);
        Check.refuses(x, "say(0, true)", INDEX, () -> x.say(0, true));
        Check.refuses(x, "hush(0)", INDEX, () -> x.hush(0));
        Check.refuses(x, "setDelay(0, 0)", INDEX, () -> x.setDelay(0, 0));
        Check.refuses(x, "setStrength(0, 1)", INDEX, () -> x.setStrength(0, 1));
        Check.refuses(x, "word(0, 0, 0)", INDEX, () -> x.word(0, 0, 0));
        Check.refuses(x, "about(0, 0)", INDEX, () -> x.about(0, 0));
        Check.refuses(x, "would(0, 1)", INDEX, () -> x.would(0, 1));
        Check.refuses(x, "tune(0)", INDEX, () -> x.tune(0));
    }

    /** "and storms". */
    private static void promise1WithoutStorms() {
        FlagChips x = new FlagChips();
        for (int place = 0; place < 20; place++) {
            Check.due("sky(" + place + ") of a new object", x.sky(place), 0);
            Check.due("storm " + place + " of a new object", x.setStorm(place, 1), 0);
        }
    }

    /** "Takes other codes: there are no hills then": also if the codes are as long as before. */
    private static void promise2NoHillsThen() {
        for (int before = 0; before <= 4; before++) {
            for (int power = 0; power <= 4; power++) {
                FlagChips x = withPower(before);
                for (int hill = 0; hill < 8; hill++) {
                    x.hill(hill % LENGTHS[before], 9);
                    x.setDelay(hill, LENGTHS[before] - 1);
                }
                sayTwelve(x, 7);
                x.setCodes(power);
                Check.same("setCodes(" + power + ") behind " + before, x, withPower(power));
            }
        }
        FlagChips x = new FlagChips();
        x.setCodes(2);
        x.setCodes(2);
        Check.due("setCodes without hills: hills", x.count(1), 0);
        Check.due("the first hill then", x.hill(3, 1), 0);
    }

    /** "storms stay". */
    private static void promise2StormsStay() {
        FlagChips x = new FlagChips();
        for (int place = 0; place < 20; place++) {
            x.setStorm(place, place * 10 - 99);
        }
        for (int power = 0; power <= 4; power++) {
            x.setCodes(power);
            for (int place = 0; place < 20; place++) {
                Check.due("storm " + place + " behind setCodes(" + power + ")", x.sky(20 + place), place * 10 - 99);
            }
        }
        Check.due("setStorm(19, 0)", x.setStorm(19, 0), 91);
    }

    /** "Returns L as it was". */
    private static void promise2ReturnsLAsItWas() {
        Check.due("the first setCodes", new FlagChips().setCodes(4), 8);
        for (int before = 0; before <= 4; before++) {
            for (int power = 0; power <= 4; power++) {
                FlagChips x = withPower(before);
                Check.due("setCodes(" + power + ")", x.setCodes(power), LENGTHS[before]);
                Check.due("L behind it", x.count(0), LENGTHS[power]);
            }
        }
    }

    /** "Throws IllegalArgumentException if power is not 0 to 4". */
    private static void promise2PowerIsNot0To4() {
        FlagChips x = new FlagChips();
        x.hill(7, 3);
        x.say(0, false);
        Check.refusesOutside(x, "setCodes(#)", ARGUMENT, 0, 4, n -> x.setCodes(n));
        int[] lengths = {8, 16, 32, 36};
        for (int length : lengths) {
            Check.refuses(x, "setCodes(" + length + ")", ARGUMENT, () -> x.setCodes(length));
        }
        Check.due("the hill is there", x.count(1), 1);
        Check.due("setCodes(0)", x.setCodes(0), 8);
        Check.due("setCodes(4)", x.setCodes(4), 1);
    }

    /** "the code of a new hill (others can have it as well)". */
    private static void promise3OthersCanHaveItAsWell() {
        FlagChips x = new FlagChips();
        for (int hill = 0; hill < 8; hill++) {
            Check.due("a hill with code 5", x.hill(5, hill + 1), hill);
        }
        for (int hill = 0; hill < 8; hill++) {
            Check.due("code of hill " + hill, x.about(hill, 0), 5);
            Check.due("strength of hill " + hill, x.about(hill, 1), hill + 1);
        }
        Check.due("codes that no hill has", x.count(6), 7);
    }

    /** "Returns its number": from 0 again behind setCodes. */
    private static void promise3ReturnsItsNumber() {
        FlagChips x = new FlagChips();
        for (int round = 0; round < 3; round++) {
            for (int hill = 0; hill < 8; hill++) {
                Check.due("number of a hill", x.hill(hill, 9), hill);
            }
            x.setCodes(3);
        }
        x.hill(0, 1);
        x.hush(0);
        Check.due("the number behind hush", x.hill(0, 1), 1);
        Check.refuses(x, "hill(0, 10)", ARGUMENT, () -> x.hill(0, 10));
        Check.due("the number behind a refused hill", x.hill(0, 1), 2);
    }

    /** "Throws IndexOutOfBoundsException if there is no such code". */
    private static void promise3NoSuchCode() {
        for (int power = 0; power <= 4; power++) {
            FlagChips x = withPower(power);
            int last = LENGTHS[power] - 1;
            Check.refusesOutside(x, "hill(#, 1)", INDEX, 0, last, n -> x.hill(n, 1));
            Check.due("hill(0, 1)", x.hill(0, 1), 0);
            Check.due("hill(" + last + ", 1)", x.hill(last, 1), 1);
        }
        FlagChips x = withPower(4);
        x.hill(15, 1);
        x.setCodes(3);
        Check.refuses(x, "hill(15, 1) where 16 codes were", INDEX, () -> x.hill(15, 1));
    }

    /** "Throws IllegalArgumentException if strength is not 1 to 9". */
    private static void promise3StrengthIsNot1To9() {
        FlagChips x = new FlagChips();
        Check.refusesOutside(x, "hill(0, #)", ARGUMENT, 1, 9, n -> x.hill(0, n));
        Check.refuses(x, "hill(0, -1)", ARGUMENT, () -> x.hill(0, -1));
        Check.due("hill(0, 1)", x.hill(0, 1), 0);
        Check.due("hill(0, 9)", x.hill(0, 9), 1);
    }

    /** "Throws IllegalStateException if there are 8". */
    private static void promise3ThereAre8() {
        FlagChips x = withPower(4);
        for (int hill = 0; hill < 8; hill++) {
            Check.due("number of a hill", x.hill(hill, 1), hill);
        }
        Check.refuses(x, "a ninth hill with a code of its own", STATE, () -> x.hill(8, 1));
        Check.refuses(x, "a ninth hill with a code of another", STATE, () -> x.hill(0, 9));
        x.hush(0);
        Check.refuses(x, "a ninth hill behind hush", STATE, () -> x.hill(8, 1));
        Check.due("hills", x.count(1), 8);
        x.setCodes(4);
        Check.due("the number of a hill behind setCodes", x.hill(8, 1), 0);
    }

    /** "Adds a word to the end of the row of a hill. Returns how many it has then". */
    private static void promise4AddsToTheEnd() {
        FlagChips x = new FlagChips();
        x.hill(1, 2);
        x.hill(2, 3);
        Check.due("the first word", x.say(0, true), 1);
        Check.due("the second word", x.say(0, false), 2);
        Check.due("the first word of the other", x.say(1, false), 1);
        Check.due("the first stays", x.word(0, 0, 0), 1);
        Check.due("the second is behind it", x.word(0, 1, 0), -1);
        Check.due("words of the other", x.about(1, 3), 1);
        Check.refuses(x, "the third", INDEX, () -> x.word(0, 2, 0));
        Check.due("the sky at the second's first chip", x.sky(8), -2);
        Check.due("the sky behind it", x.sky(16), 0);
    }

    /** "Throws IndexOutOfBoundsException if there is no such hill". */
    private static void promise4NoSuchHill() {
        FlagChips x = new FlagChips();
        Check.refusesOutside(x, "say(#, true) without hills", INDEX, 0, -1, n -> x.say(n, true));
        x.hill(0, 1);
        x.hill(1, 1);
        Check.refusesOutside(x, "say(#, false)", INDEX, 0, 1, n -> x.say(n, false));
        Check.due("say(1, false)", x.say(1, false), 1);
        x.setCodes(3);
        Check.refuses(x, "say(1, true) behind setCodes", INDEX, () -> x.say(1, true));
    }

    /** "Throws IllegalStateException if it has 12". */
    private static void promise4ItHas12() {
        FlagChips x = new FlagChips();
        x.hill(0, 1);
        x.hill(1, 1);
        for (int word = 1; word <= 12; word++) {
            Check.due("say(0, true)", x.say(0, true), word);
        }
        Check.refuses(x, "a thirteenth word, yes", STATE, () -> x.say(0, true));
        Check.refuses(x, "a thirteenth word, no", STATE, () -> x.say(0, false));
        Check.due("a word of the other hill", x.say(1, true), 1);
        x.hush(0);
        for (int word = 1; word <= 12; word++) {
            Check.due("say(0, false) behind hush", x.say(0, false), word);
        }
        Check.refuses(x, "a thirteenth word behind hush", STATE, () -> x.say(0, true));
    }

    /** "Takes all words of a hill away. Returns how many there were": none, one and 12. */
    private static void promise5TakesAllAway() {
        FlagChips x = withPower(4);
        x.hill(15, 9);
        x.hill(3, 4);
        x.say(1, true);
        x.setDelay(0, 15);
        FlagChips before = withPower(4);
        before.hill(15, 9);
        before.hill(3, 4);
        before.say(1, true);
        before.setDelay(0, 15);
        Check.due("hush(0) without words", x.hush(0), 0);
        x.say(0, false);
        Check.due("hush(0) with one", x.hush(0), 1);
        sayTwelve(x, 0);
        Check.due("hush(0) with 12", x.hush(0), 12);
        Check.due("hush(0) again", x.hush(0), 0);
        Check.same("behind hush", x, before);
    }

    /** "Throws IndexOutOfBoundsException if there is no such hill". */
    private static void promise5NoSuchHill() {
        FlagChips x = new FlagChips();
        Check.refusesOutside(x, "hush(#) without hills", INDEX, 0, -1, n -> x.hush(n));
        x.hill(0, 1);
        x.hill(1, 1);
        x.say(1, true);
        Check.refusesOutside(x, "hush(#)", INDEX, 0, 1, n -> x.hush(n));
        Check.due("hush(1)", x.hush(1), 1);
    }

    /** "its delay from now on. Returns the one before": all words move, the longest row too. */
    private static void promise6FromNowOn() {
        for (int power = 0; power <= 4; power++) {
            FlagChips x = withPower(power);
            int last = LENGTHS[power] - 1;
            x.hill(0, 3);
            sayTwelve(x, 0);
            FlagChips late = withPower(power);
            late.hill(0, 3);
            Check.due("setDelay of the one without words", late.setDelay(0, last), 0);
            sayTwelve(late, 0);
            Check.due("setDelay(0, " + last + ")", x.setDelay(0, last), 0);
            Check.due("setDelay(0, " + last + ") again", x.setDelay(0, last), last);
            Check.same("words said ahead of their delay, L = " + LENGTHS[power], x, late);
            Check.due("setDelay(0, 0)", x.setDelay(0, 0), last);
            Check.due("the first chip", x.sky(0), -3);
            Check.due("the last chip", x.sky(12 * LENGTHS[power] - 1), 3);
            Check.due("the chip behind it", x.sky(12 * LENGTHS[power]), 0);
        }
    }

    /** "Throws IndexOutOfBoundsException if there is no such hill". */
    private static void promise6NoSuchHill() {
        FlagChips x = new FlagChips();
        Check.refusesOutside(x, "setDelay(#, 0) without hills", INDEX, 0, -1, n -> x.setDelay(n, 0));
        x.hill(0, 1);
        x.hill(1, 1);
        Check.refusesOutside(x, "setDelay(#, 1)", INDEX, 0, 1, n -> x.setDelay(n, 1));
        Check.due("setDelay(1, 1)", x.setDelay(1, 1), 0);
    }

    /** "Throws IllegalArgumentException if delay is not 0 to L - 1". */
    private static void promise6DelayIsNot0ToL() {
        for (int power = 0; power <= 4; power++) {
            FlagChips x = withPower(power);
            int last = LENGTHS[power] - 1;
            x.hill(0, 1);
            x.say(0, true);
            Check.refusesOutside(x, "setDelay(0, #)", ARGUMENT, 0, last, n -> x.setDelay(0, n));
            Check.due("setDelay(0, " + last + ")", x.setDelay(0, last), 0);
            Check.due("setDelay(0, 0)", x.setDelay(0, 0), last);
        }
    }

    /** "its strength from now on. Returns the one before": of the words that were said and of those to come. */
    private static void promise7FromNowOn() {
        FlagChips x = new FlagChips();
        x.hill(1, 5);
        Check.due("setStrength(0, 9) without words", x.setStrength(0, 9), 5);
        Check.due("the sky without words", x.sky(0), 0);
        x.say(0, true);
        Check.due("the sky with strength 9", x.sky(0), 9);
        Check.due("setStrength(0, 1)", x.setStrength(0, 1), 9);
        Check.due("the sky with strength 1", x.sky(0), 1);
        Check.due("setStrength(0, 1) again", x.setStrength(0, 1), 1);
        Check.due("the sky with strength 1 again", x.sky(0), 1);
        x.say(0, false);
        Check.due("the word to come", x.sky(8), -1);
    }

    /** "Throws IndexOutOfBoundsException if there is no such hill". */
    private static void promise7NoSuchHill() {
        FlagChips x = new FlagChips();
        Check.refusesOutside(x, "setStrength(#, 1) without hills", INDEX, 0, -1, n -> x.setStrength(n, 1));
        x.hill(0, 1);
        x.hill(1, 1);
        Check.refusesOutside(x, "setStrength(#, 2)", INDEX, 0, 1, n -> x.setStrength(n, 2));
        Check.due("setStrength(1, 2)", x.setStrength(1, 2), 1);
    }

    /** "Throws IllegalArgumentException if strength is not 1 to 9". */
    private static void promise7StrengthIsNot1To9() {
        FlagChips x = new FlagChips();
        x.hill(0, 5);
        x.say(0, true);
        Check.refusesOutside(x, "setStrength(0, #)", ARGUMENT, 1, 9, n -> x.setStrength(0, n));
        Check.refuses(x, "setStrength(0, -5)", ARGUMENT, () -> x.setStrength(0, -5));
        Check.due("setStrength(0, 1)", x.setStrength(0, 1), 5);
        Check.due("setStrength(0, 9)", x.setStrength(0, 9), 1);
    }

    /** "the storm there from now on. Returns the one before": not added to it, and nowhere else. */
    private static void promise8FromNowOn() {
        FlagChips x = new FlagChips();
        Check.due("setStorm(0, 99)", x.setStorm(0, 99), 0);
        Check.due("setStorm(0, 99) again", x.setStorm(0, 99), 99);
        Check.due("sky(0)", x.sky(0), 99);
        Check.due("setStorm(0, -99)", x.setStorm(0, -99), 99);
        Check.due("sky(0)", x.sky(0), -99);
        Check.due("setStorm(19, 5)", x.setStorm(19, 5), 0);
        Check.due("setStorm(0, 0)", x.setStorm(0, 0), -99);
        Check.due("sky(0)", x.sky(0), 0);
        Check.due("sky(1)", x.sky(1), 0);
        Check.due("sky(19)", x.sky(19), 5);
    }

    /** "Throws IndexOutOfBoundsException if place is not 0 to 19". */
    private static void promise8PlaceIsNot0To19() {
        FlagChips x = new FlagChips();
        Check.refusesOutside(x, "setStorm(#, 1)", INDEX, 0, 19, n -> x.setStorm(n, 1));
        Check.due("setStorm(0, 1)", x.setStorm(0, 1), 0);
        Check.due("setStorm(19, 1)", x.setStorm(19, 1), 0);
    }

    /** "Throws IllegalArgumentException if storm is not -99 to 99". */
    private static void promise8StormIsNot99() {
        FlagChips x = new FlagChips();
        Check.refusesOutside(x, "setStorm(7, #)", ARGUMENT, -99, 99, n -> x.setStorm(7, n));
        Check.due("setStorm(7, 99)", x.setStorm(7, 99), 0);
        Check.due("setStorm(7, -99)", x.setStorm(7, -99), 99);
    }
}
