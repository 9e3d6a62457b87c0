import java.math.BigInteger;

/** The sentences of promises 15 to 21 that name a boundary, each with a test of its own. */
final class WouldEdgesTest {
    private static final Class<IndexOutOfBoundsException> INDEX = IndexOutOfBoundsException.class;
    private static final Class<IllegalArgumentException> ARGUMENT = IllegalArgumentException.class;

    private static final int[] LENGTHS = {1, 2, 4, 8, 16};

    private WouldEdgesTest() {
    }

    public static void main(String[] args) {
        promise15NoSuchCode();
        promise15ShiftIsNot0ToL();
        promise16OfSeveralTheSmallest();
        promise16NoSuchCode();
        promise17OfThoseThatNoHillHas();
        promise17AlsoWithoutWords();
        promise17TheLeastProducts();
        promise17OfSeveralTheLeast();
        promise17OrLMore();
        promise17EachCodeIsTaken();
        promise17NothingIsChanged();
        promise17DelayIsNot0ToL();
        promise18WordsOfAllHills();
        promise18NothingHeardIsWrong();
        promise18NothingIsChanged();
        promise18NoSuchHill();
        promise18StrengthIsNot1To9();
        promise19TheLeastStrength();
        promise19WithoutWords();
        promise19NothingIsChanged();
        promise19NoSuchHill();
        promise20WithoutWords();
        promise20FromChip0ToTheEnd();
        promise20IsNotCut();
        promise21OfANewObject();
        promise21OfAFullObject();
        promise21WrapsAround();
        promise21NothingIsChanged();
        Check.end();
    }

    private static FlagChips withPower(int power) {
        FlagChips x = new FlagChips();
        x.setCodes(power);
        return x;
    }

    /** Codes of one chip, and hills of these strengths, each with one word, yes. */
    private static FlagChips oneChip(int... strengths) {
        FlagChips x = withPower(0);
        for (int hill = 0; hill < strengths.length; hill++) {
            x.hill(0, strengths[hill]);
            x.say(hill, true);
        }
        return x;
    }

    /** "Throws IndexOutOfBoundsException if there is no such code": the first or the second. */
    private static void promise15NoSuchCode() {
        for (int power = 0; power <= 4; power++) {
            FlagChips x = withPower(power);
            int last = LENGTHS[power] - 1;
            Check.refusesOutside(x, "alike(#, 0, 0)", INDEX, 0, last, n -> x.alike(n, 0, 0));
            Check.refusesOutside(x, "alike(0, #, 0)", INDEX, 0, last, n -> x.alike(0, n, 0));
            Check.due("alike(" + last + ", " + last + ", 0)", x.alike(last, last, 0), last + 1);
        }
    }

    /** "a shift, 0 to L - 1", "Throws IllegalArgumentException if shift is not 0 to L - 1". */
    private static void promise15ShiftIsNot0ToL() {
        for (int power = 0; power <= 4; power++) {
            FlagChips x = withPower(power);
            int last = LENGTHS[power] - 1;
            Check.refusesOutside(x, "alike(0, 0, #)", ARGUMENT, 0, last, n -> x.alike(0, 0, n));
            Check.due("alike(0, 0, 0)", x.alike(0, 0, 0), last + 1);
            Check.due("alike(0, 0, " + last + ")", x.alike(0, 0, last), last + 1);
        }
    }

    /** "by which they are the most alike, of several the smallest one". */
    private static void promise16OfSeveralTheSmallest() {
        FlagChips x = new FlagChips();
        Check.due("shift(0, 0), 8 by all", x.shift(0, 0), 0);
        Check.due("shift(0, 7), 0 by all", x.shift(0, 7), 0);
        Check.due("shift(1, 1), 8 by all", x.shift(1, 1), 0);
        Check.due("shift(4, 4), 8 by 0 and 4", x.shift(4, 4), 0);
        Check.due("shift(2, 3), 8 by 1, 3, 5 and 7", x.shift(2, 3), 1);
        Check.due("shift(4, 5), 4 by 1, 3, 5 and 7", x.shift(4, 5), 1);
        Check.due("shift(4, 6), 8 by 2 and 6", x.shift(4, 6), 2);
        Check.due("L = 1: shift(0, 0)", withPower(0).shift(0, 0), 0);
        Check.due("L = 2: shift(1, 1), 2 by both", withPower(1).shift(1, 1), 0);
        Check.due("L = 16: shift(8, 12), by 4 and 12", withPower(4).shift(8, 12), 4);
    }

    /** "Throws IndexOutOfBoundsException if there is no such code". */
    private static void promise16NoSuchCode() {
        for (int power = 0; power <= 4; power++) {
            FlagChips x = withPower(power);
            int last = LENGTHS[power] - 1;
            Check.refusesOutside(x, "shift(#, 0)", INDEX, 0, last, n -> x.shift(n, 0));
            Check.refusesOutside(x, "shift(0, #)", INDEX, 0, last, n -> x.shift(0, n));
            Check.due("shift(" + last + ", " + last + ")", x.shift(last, last), 0);
        }
    }

    /** "The code, of those that no hill has": not one that is taken, if it would be the best as well. */
    private static void promise17OfThoseThatNoHillHas() {
        FlagChips x = withPower(1);
        Check.due("advise(0) without hills", x.advise(0), 0);
        x.hill(0, 9);
        Check.due("advise(0), the one left", x.advise(0), 1);
        x.setCodes(1);
        x.hill(1, 9);
        Check.due("advise(1), the other one left", x.advise(1), 0);
        FlagChips y = withPower(4);
        for (int hill = 0; hill < 8; hill++) {
            y.hill(15 - hill, 1);
        }
        Check.due("advise(0), eight of 16 left", y.advise(0), 0);
        FlagChips z = withPower(4);
        for (int code = 0; code < 8; code++) {
            z.hill(code, 9);
        }
        Check.due("advise(0), the upper eight left", z.advise(0), 8);
    }

    /**
     * The codes 6 and 7 are left. Hill 4 (code 4) tells them apart by 2 and 6 alone: there code 6 is like it, and code
     * 7 is not. Hill 6 (code 5) counts nothing as long as it is as late as what is asked for; no other one ever does.
     */
    private static FlagChips sixAndSevenLeft() {
        FlagChips x = new FlagChips();
        for (int code = 0; code < 5; code++) {
            x.hill(code, 1);
        }
        x.hill(1, 9);
        x.hill(5, 1);
        return x;
    }

    /** "of each hill (also without words)": the answer is the same with words, and with a hushed hill. */
    private static void promise17AlsoWithoutWords() {
        FlagChips x = sixAndSevenLeft();
        x.setDelay(6, 2);
        Check.due("no hill has words", x.advise(2), 7);
        x.say(0, true);
        Check.due("another hill has one", x.advise(2), 7);
        x.say(4, true);
        Check.due("the hill has one", x.advise(2), 7);
        x.hush(4);
        Check.due("the hill is hushed", x.advise(2), 7);
    }

    /** "the products of the strength of each hill .. and the likeness .., added, are the least": one more, one less. */
    private static void promise17TheLeastProducts() {
        FlagChips x = new FlagChips();
        int[] codes = {4, 0, 1, 2, 3, 5};
        for (int code : codes) {
            x.hill(code, 5);
        }
        // By 2 code 6 is like code 4 alone, and code 7 like code 5 alone, both as much.
        Check.due("5 against 5", x.advise(2), 6);
        x.setStrength(0, 6);
        Check.due("6 against 5", x.advise(2), 7);
        x.setStrength(5, 7);
        Check.due("6 against 7", x.advise(2), 6);
        x.setStrength(0, 9);
        x.setStrength(5, 1);
        Check.due("9 against 1", x.advise(2), 7);
        x.setStrength(0, 1);
        x.setStrength(5, 9);
        Check.due("1 against 9", x.advise(2), 6);
    }

    /** "of several the least one". */
    private static void promise17OfSeveralTheLeast() {
        FlagChips x = sixAndSevenLeft();
        Check.due("6 and 7 alike, by 0", x.advise(0), 6);
        x.setDelay(6, 1);
        Check.due("6 and 7 alike, by 1", x.advise(1), 6);
        FlagChips y = new FlagChips();
        y.hill(0, 1);
        Check.due("all others alike", y.advise(5), 1);
        FlagChips z = new FlagChips();
        z.hill(1, 1);
        Check.due("the least of them is code 0", z.advise(5), 0);
    }

    /** "the shift is this delay less that of the hill, or L more, if that is less than 0". */
    private static void promise17OrLMore() {
        FlagChips x = sixAndSevenLeft();
        int[] due = {6, 6, 7, 6, 6, 6, 7, 6};
        for (int delay = 0; delay < 8; delay++) {
            for (int late = 0; late < 8; late++) {
                x.setDelay(4, late);
                x.setDelay(6, delay);
                int shift = delay < late ? delay - late + 8 : delay - late;
                Check.due("advise(" + delay + ") by a hill with delay " + late, x.advise(delay), due[shift]);
            }
        }
    }

    /** "-1 if each code is taken". */
    private static void promise17EachCodeIsTaken() {
        for (int power = 0; power <= 3; power++) {
            FlagChips x = withPower(power);
            int last = LENGTHS[power] - 1;
            for (int code = 0; code < last; code++) {
                x.hill(code, 9);
            }
            Check.due("advise(" + last + ") with one code left", x.advise(last), last);
            x.hill(last, 1);
            Check.due("advise(0) with all codes taken", x.advise(0), -1);
            Check.due("advise(" + last + ") with all codes taken", x.advise(last), -1);
        }
    }

    /** "(nothing is changed)". */
    private static void promise17NothingIsChanged() {
        FlagChips x = sixAndSevenLeft();
        FlagChips twin = sixAndSevenLeft();
        for (int delay = 0; delay < 8; delay++) {
            x.advise(delay);
        }
        Check.same("behind advise", x, twin);
        FlagChips taken = oneChip(3);
        Check.due("advise(0)", taken.advise(0), -1);
        Check.same("behind advise with all codes taken", taken, oneChip(3));
    }

    /** "Throws IllegalArgumentException if delay is not 0 to L - 1": also if each code is taken. */
    private static void promise17DelayIsNot0ToL() {
        for (int power = 0; power <= 4; power++) {
            FlagChips x = withPower(power);
            int last = LENGTHS[power] - 1;
            Check.refusesOutside(x, "advise(#) without hills", ARGUMENT, 0, last, n -> x.advise(n));
            Check.due("advise(" + last + ")", x.advise(last), 0);
            for (int hill = 0; hill < 8; hill++) {
                x.hill(hill % (last + 1), 1);
            }
            Check.refusesOutside(x, "advise(#) with 8 hills", ARGUMENT, 0, last, n -> x.advise(n));
        }
    }

    /** "how many words of all hills would be heard wrongly": those of the others and its own, with 1 and with 9. */
    private static void promise18WordsOfAllHills() {
        FlagChips x = oneChip(5, 4);
        x.hush(1);
        x.say(1, false);
        Check.due("as it is", x.would(0, 5), 1);
        Check.due("as count(3) tells", x.count(3), 1);
        Check.due("as weak as can be, its own is wrong", x.would(0, 1), 1);
        Check.due("as strong as can be, the other's is wrong", x.would(0, 9), 1);
        x.setStorm(0, 2);
        Check.due("the storm helps hill 0", x.would(0, 1), 1);
        Check.due("both are wrong, for nothing is heard", x.would(0, 2), 2);
        x.hill(0, 1);
        Check.due("of a hill without words", x.would(2, 9), x.count(3));
    }

    /** "hears anything else (nothing as well)" is wrong, also of what would be. */
    private static void promise18NothingHeardIsWrong() {
        FlagChips x = oneChip(9);
        x.setStorm(0, -4);
        Check.due("less than 0", x.would(0, 3), 1);
        Check.due("nothing", x.would(0, 4), 1);
        Check.due("more than 0", x.would(0, 5), 0);
    }

    /** 3 hills, one full and late, one with the same code, one without words. */
    private static FlagChips threeHills() {
        FlagChips x = withPower(4);
        x.hill(9, 6);
        x.hill(9, 4);
        x.hill(2, 9);
        for (int word = 0; word < 12; word++) {
            x.say(0, word % 3 == 0);
        }
        x.setDelay(0, 15);
        x.say(1, true);
        x.say(1, false);
        x.setStorm(3, -77);
        return x;
    }

    /** "(nothing is changed)". */
    private static void promise18NothingIsChanged() {
        FlagChips x = threeHills();
        for (int strength = 1; strength <= 9; strength++) {
            x.would(0, strength);
            x.would(1, strength);
            x.would(2, strength);
        }
        Check.same("behind would", x, threeHills());
        FlagChips y = oneChip(5);
        Check.due("would(0, 9)", y.would(0, 9), 0);
        Check.due("setStrength(0, 7) behind would", y.setStrength(0, 7), 5);
        Check.due("sky(0) behind both", y.sky(0), 7);
    }

    /** "Throws IndexOutOfBoundsException if there is no such hill". */
    private static void promise18NoSuchHill() {
        FlagChips x = new FlagChips();
        Check.refusesOutside(x, "would(#, 1) without hills", INDEX, 0, -1, n -> x.would(n, 1));
        x.hill(0, 1);
        x.hill(0, 1);
        Check.refusesOutside(x, "would(#, 9)", INDEX, 0, 1, n -> x.would(n, 9));
        Check.due("would(1, 9)", x.would(1, 9), 0);
    }

    /** "Throws IllegalArgumentException if strength is not 1 to 9". */
    private static void promise18StrengthIsNot1To9() {
        FlagChips x = oneChip(5);
        Check.refusesOutside(x, "would(0, #)", ARGUMENT, 1, 9, n -> x.would(0, n));
        Check.due("would(0, 1)", x.would(0, 1), 0);
        Check.due("would(0, 9)", x.would(0, 9), 0);
    }

    /** "the least strength with which the fewest words of all would be heard wrongly": 1, each other one, 9. */
    private static void promise19TheLeastStrength() {
        FlagChips x = oneChip(9);
        Check.due("all are as good", x.tune(0), 1);
        for (int storm = 1; storm <= 8; storm++) {
            x.setStorm(0, -storm);
            Check.due("in a storm of -" + storm, x.tune(0), storm + 1);
        }
        x.setStorm(0, -9);
        Check.due("all are as bad", x.tune(0), 1);
        FlagChips y = oneChip(9, 3);
        y.hush(1);
        y.say(1, false);
        Check.due("below the other, the other's is heard", y.tune(0), 1);
        y.say(0, true);
        y.setStorm(1, -5);
        Check.due("for its own second word", y.tune(0), 6);
    }

    /** A hill without words changes nothing by its strength: 1 is the least. */
    private static void promise19WithoutWords() {
        FlagChips x = withPower(0);
        x.hill(0, 9);
        Check.due("no words at all", x.tune(0), 1);
        x.hill(0, 1);
        x.say(1, true);
        x.setStorm(0, -1);
        Check.due("another's word is wrong", x.tune(0), 1);
        Check.due("the other is to be stronger", x.tune(1), 2);
    }

    /** "(nothing is changed)". */
    private static void promise19NothingIsChanged() {
        FlagChips x = threeHills();
        for (int hill = 0; hill < 3; hill++) {
            x.tune(hill);
        }
        Check.same("behind tune", x, threeHills());
    }

    /** "Throws IndexOutOfBoundsException if there is no such hill". */
    private static void promise19NoSuchHill() {
        FlagChips x = new FlagChips();
        Check.refusesOutside(x, "tune(#) without hills", INDEX, 0, -1, n -> x.tune(n));
        x.hill(0, 9);
        x.hill(0, 9);
        Check.refusesOutside(x, "tune(#)", INDEX, 0, 1, n -> x.tune(n));
        Check.due("tune(1)", x.tune(1), 1);
    }

    /** "0 without words": in storms, with hills that are late, and behind hush. */
    private static void promise20WithoutWords() {
        FlagChips x = new FlagChips();
        Check.due("of a new object", x.mean(), 0.0);
        for (int place = 0; place < 20; place++) {
            x.setStorm(place, 99);
        }
        Check.due("in storms", x.mean(), 0.0);
        x.hill(0, 9);
        x.setDelay(0, 7);
        Check.due("with a late hill", x.mean(), 0.0);
        x.say(0, true);
        Check.due("with a word", x.mean(), (15 * 99 + 72) / 15.0);
        x.hush(0);
        Check.due("behind hush", x.mean(), 0.0);
    }

    /** "the sky of all chips ahead of that which count(4) tells, from 0 on": chip 0, the last one, not the next. */
    private static void promise20FromChip0ToTheEnd() {
        FlagChips x = oneChip(5);
        Check.due("of one chip", x.mean(), 5.0);
        x.setStorm(0, -9);
        Check.due("of one chip below 0", x.mean(), -4.0);
        x.setStorm(1, 99);
        Check.due("not of the chip at the end", x.mean(), -4.0);
        x.say(0, true);
        Check.due("of two chips", x.mean(), 50.0);
        FlagChips y = withPower(4);
        y.hill(0, 9);
        y.setDelay(0, 15);
        for (int word = 0; word < 12; word++) {
            y.say(0, true);
        }
        Check.due("of 15 chips of nothing and 192 of 9", y.mean(), 1728 / 207.0);
        y.setStorm(0, 99);
        Check.due("a storm at 0, 20, .. 200", y.mean(), (1728 + 11 * 99) / 207.0);
        y.setStorm(7, 99);
        Check.due("a storm at 7, 27, .. 187, not at 207", y.mean(), (1728 + 21 * 99) / 207.0);
        y.setStorm(6, -99);
        Check.due("a storm at 6, 26, .. 206", y.mean(), (1728 + 10 * 99) / 207.0);
    }

    /** A mean is no whole number: neither above nor below 0. */
    private static void promise20IsNotCut() {
        FlagChips x = oneChip(1);
        x.say(0, true);
        x.setStorm(0, 1);
        Check.due("the mean of 2 and 1", x.mean(), 1.5);
        x.setStorm(0, -1);
        Check.due("the mean of 0 and 1", x.mean(), 0.5);
        x.setStorm(0, -4);
        x.setStorm(1, -1);
        Check.due("the mean of -3 and 0", x.mean(), -1.5);
        x.setStorm(1, 2);
        Check.due("the mean of -3 and 3", x.mean(), 0.0);
        x.say(0, true);
        x.setStorm(2, -2);
        Check.due("the mean of -3, 3 and -1", x.mean(), -1 / 3.0);
    }

    /** "A number d starts with 1621": then what count tells and the 20 storms, and nothing of hills. */
    private static void promise21OfANewObject() {
        BigInteger d = BigInteger.valueOf(1621);
        int[] counts = {8, 0, 0, 0, 0, 0, 8};
        for (int count : counts) {
            d = next(d, count);
        }
        for (int place = 0; place < 20; place++) {
            d = next(d, 0);
        }
        Check.due("digest() of a new object", new FlagChips().digest(), d.longValue());
    }

    private static BigInteger next(BigInteger d, long x) {
        return d.multiply(BigInteger.valueOf(31)).add(BigInteger.valueOf(x));
    }

    /** "in their order", with all that an object can hold: 8 hills of 12 words, storms of both signs. */
    private static void promise21OfAFullObject() {
        FlagChips x = withPower(4);
        BigInteger d = BigInteger.valueOf(1621);
        for (int place = 0; place < 20; place++) {
            x.setStorm(place, 99 - 10 * place);
        }
        for (int hill = 0; hill < 8; hill++) {
            x.hill(2 * hill, 9 - hill);
            x.setDelay(hill, 15 - hill);
            for (int word = 0; word < 12; word++) {
                x.say(hill, (word * hill + word) % 4 < 2);
            }
        }
        for (int what = 0; what <= 6; what++) {
            d = next(d, x.count(what));
        }
        for (int place = 0; place < 20; place++) {
            d = next(d, 99 - 10 * place);
        }
        for (int hill = 0; hill < 8; hill++) {
            for (int what = 0; what <= 6; what++) {
                d = next(d, x.about(hill, what));
            }
            for (int word = 0; word < 12; word++) {
                for (int what = 0; what <= 2; what++) {
                    d = next(d, x.word(hill, word, what));
                }
            }
        }
        Check.due("digest() of a full object", x.digest(), d.longValue());
    }

    /** "wraps around as a 64-bit integer": told by whole numbers without an end, and below 0 as well. */
    private static void promise21WrapsAround() {
        BigInteger end = BigInteger.ONE.shiftLeft(63);
        int below = 0;
        int above = 0;
        for (int storm = -9; storm <= 9; storm++) {
            FlagChips x = withPower(0);
            x.setStorm(0, storm);
            BigInteger d = BigInteger.valueOf(1621);
            int[] counts = {1, 0, 0, 0, 0, 0, 1};
            for (int count : counts) {
                d = next(d, count);
            }
            d = next(d, storm);
            for (int place = 1; place < 20; place++) {
                d = next(d, 0);
            }
            BigInteger wrapped = d.add(end).mod(end.shiftLeft(1)).subtract(end);
            Check.due("digest() with a storm of " + storm, x.digest(), wrapped.longValueExact());
            below += wrapped.signum() < 0 ? 1 : 0;
            above += wrapped.signum() > 0 ? 1 : 0;
        }
        Check.holds("some of these are below 0 and some above", below > 0 && above > 0);
    }

    private static void promise21NothingIsChanged() {
        FlagChips x = threeHills();
        Check.due("digest() twice", x.digest(), x.digest());
        Check.same("behind digest", x, threeHills());
    }
}
