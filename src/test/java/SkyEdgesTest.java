/** The sentences of promises 9 to 14 that name a boundary, each with a test of its own. */
final class SkyEdgesTest {
    private static final Class<IndexOutOfBoundsException> INDEX = IndexOutOfBoundsException.class;
    private static final Class<IllegalArgumentException> ARGUMENT = IllegalArgumentException.class;

    private static final int[] LENGTHS = {1, 2, 4, 8, 16};

    private SkyEdgesTest() {
    }

    public static void main(String[] args) {
        promise9NoSuchCodeOrPlace();
        promise10Time0To999();
        promise11NoSuchCode();
        promise11Time0To999();
        promise11AroundTheEndOfHills();
        promise12YesOrNo();
        promise12WithItsSign();
        promise12HeardWronglyOrNot();
        promise12NoSuchHillOrWord();
        promise12WhatIsNot0To2();
        promise13WithoutWords();
        promise13Words();
        promise13HeardWrongly();
        promise13ItsLastWordIsOver();
        promise13TheLeastWithoutSigns();
        promise13NoSuchHill();
        promise13WhatIsNot0To6();
        promise14WithoutHills();
        promise14WithoutWords();
        promise14WordsOfAll();
        promise14HeardWronglyOfAll();
        promise14AllWordsAreOver();
        promise14TheHighestSky();
        promise14CodesThatNoHillHas();
        promise14WhatIsNot0To6();
        Check.end();
    }

    private static FlagChips withPower(int power) {
        FlagChips x = new FlagChips();
        x.setCodes(power);
        return x;
    }

    /** A hill of strength 1 on codes of one chip: what it says is the sky, and what is heard. */
    private static FlagChips oneChip() {
        FlagChips x = withPower(0);
        x.hill(0, 1);
        return x;
    }

    private static void sayTwelve(FlagChips x, int hill) {
        for (int word = 0; word < 12; word++) {
            x.say(hill, word % 2 == 0);
        }
    }

    /** "Throws IndexOutOfBoundsException if there is no such code or place". */
    private static void promise9NoSuchCodeOrPlace() {
        for (int power = 0; power <= 4; power++) {
            FlagChips x = withPower(power);
            int last = LENGTHS[power] - 1;
            Check.refusesOutside(x, "chip(#, " + last + ")", INDEX, 0, last, n -> x.chip(n, last));
            Check.refusesOutside(x, "chip(" + last + ", #)", INDEX, 0, last, n -> x.chip(last, n));
            Check.refuses(x, "chip of no code and no place", INDEX, () -> x.chip(last + 1, -1));
            Check.due("chip(" + last + ", " + last + ")", x.chip(last, last), power % 2 == 0 ? 1 : -1);
        }
    }

    /** "a chip of time, 0 to 999", "Throws IllegalArgumentException if time is not 0 to 999". */
    private static void promise10Time0To999() {
        FlagChips x = new FlagChips();
        x.setStorm(0, 4);
        x.setStorm(19, -6);
        Check.due("sky(0)", x.sky(0), 4);
        Check.due("sky(999)", x.sky(999), -6);
        Check.refusesOutside(x, "sky(#)", ARGUMENT, 0, 999, n -> x.sky(n));
    }

    /** "Throws IndexOutOfBoundsException if there is no such code". */
    private static void promise11NoSuchCode() {
        for (int power = 0; power <= 4; power++) {
            FlagChips x = withPower(power);
            int last = LENGTHS[power] - 1;
            x.setStorm(0, 3);
            Check.due("hear(0, 0)", x.hear(0, 0), 3);
            Check.due("hear(" + last + ", 0)", x.hear(last, 0), 3);
            Check.refusesOutside(x, "hear(#, 0)", INDEX, 0, last, n -> x.hear(n, 0));
        }
    }

    /** "a chip of time, 0 to 999", "Throws .. if time is not 0 to 999": at 999 one listens on to chips behind it. */
    private static void promise11Time0To999() {
        for (int power = 0; power <= 4; power++) {
            FlagChips x = withPower(power);
            x.setStorm(19, 1);
            for (int place = 0; place < 15; place++) {
                x.setStorm(place, 10);
            }
            Check.due("L = " + LENGTHS[power] + ": hear(0, 999)", x.hear(0, 999), 1 + 10 * (LENGTHS[power] - 1));
            Check.due("L = " + LENGTHS[power] + ": hear(0, 0)", x.hear(0, 0), 10 * Math.min(15, LENGTHS[power]));
            Check.refusesOutside(x, "hear(0, #)", ARGUMENT, 0, 999, n -> x.hear(0, n));
        }
    }

    /** "ahead of its first word and behind its last one 0": listening half ahead, half behind, and beyond. */
    private static void promise11AroundTheEndOfHills() {
        FlagChips x = withPower(4);
        x.hill(0, 9);
        x.setDelay(0, 15);
        for (int word = 0; word < 12; word++) {
            x.say(0, true);
        }
        Check.due("one chip of the first word", x.hear(0, 0), 9);
        Check.due("the first word", x.hear(0, 15), 144);
        Check.due("the last word", x.hear(0, 191), 144);
        Check.due("all of it but one chip", x.hear(0, 192), 135);
        Check.due("its last chip", x.hear(0, 206), 9);
        Check.due("behind it", x.hear(0, 207), 0);
        Check.due("far behind it", x.hear(0, 999), 0);
    }

    /** "0 1 if it is yes, -1 if no": also if it is heard wrongly. */
    private static void promise12YesOrNo() {
        FlagChips x = oneChip();
        x.say(0, true);
        x.say(0, false);
        Check.due("yes", x.word(0, 0, 0), 1);
        Check.due("no", x.word(0, 1, 0), -1);
        x.setStorm(0, -99);
        x.setStorm(1, 99);
        Check.due("yes, heard as no", x.word(0, 0, 0), 1);
        Check.due("no, heard as yes", x.word(0, 1, 0), -1);
    }

    /** "1 what is heard of it, as a number with its sign": more than 0, 0 and less. */
    private static void promise12WithItsSign() {
        FlagChips x = oneChip();
        x.say(0, true);
        Check.due("heard of yes", x.word(0, 0, 1), 1);
        x.setStorm(0, -1);
        Check.due("nothing heard of yes", x.word(0, 0, 1), 0);
        x.setStorm(0, -4);
        Check.due("heard of yes in a storm", x.word(0, 0, 1), -3);
        FlagChips loudest = withPower(4);
        for (int hill = 0; hill < 8; hill++) {
            loudest.hill(0, 9);
            loudest.say(hill, false);
        }
        for (int place = 0; place < 20; place++) {
            loudest.setStorm(place, -99);
        }
        Check.due("the loudest that can be", loudest.word(7, 0, 1), -16 * 171);
    }

    /** "2 1 if it is heard wrongly, else 0": nothing is heard wrongly as well. */
    private static void promise12HeardWronglyOrNot() {
        FlagChips x = oneChip();
        x.say(0, true);
        x.say(0, false);
        int[] storms = {-2, -1, 0, 1, 2};
        int[] yes = {1, 1, 0, 0, 0};
        int[] no = {0, 0, 0, 1, 1};
        for (int n = 0; n < storms.length; n++) {
            x.setStorm(0, storms[n]);
            x.setStorm(1, storms[n]);
            Check.due("yes in a storm of " + storms[n], x.word(0, 0, 2), yes[n]);
            Check.due("no in a storm of " + storms[n], x.word(0, 1, 2), no[n]);
        }
    }

    /** "Throws IndexOutOfBoundsException if there is no such hill or word": the first, the last, and none. */
    private static void promise12NoSuchHillOrWord() {
        FlagChips x = new FlagChips();
        Check.refusesOutside(x, "word(#, 0, 0) without hills", INDEX, 0, -1, n -> x.word(n, 0, 0));
        x.hill(0, 1);
        x.hill(0, 1);
        Check.refusesOutside(x, "word(0, #, 0) without words", INDEX, 0, -1, n -> x.word(0, n, 0));
        x.say(0, true);
        Check.refusesOutside(x, "word(0, #, 0) with one", INDEX, 0, 0, n -> x.word(0, n, 0));
        Check.refuses(x, "word(1, 0, 0), which the other has", INDEX, () -> x.word(1, 0, 0));
        Check.refusesOutside(x, "word(#, 0, 0)", INDEX, 0, 1, n -> x.word(n, 0, 0));
        sayTwelve(x, 1);
        Check.due("word(1, 11, 0)", x.word(1, 11, 0), -1);
        Check.refusesOutside(x, "word(1, #, 2) with 12", INDEX, 0, 11, n -> x.word(1, n, 2));
        x.hush(1);
        Check.refuses(x, "word(1, 0, 0) behind hush", INDEX, () -> x.word(1, 0, 0));
        Check.refuses(x, "word(1, 11, 0) behind hush", INDEX, () -> x.word(1, 11, 0));
    }

    /** "or what is not 0 to 2". */
    private static void promise12WhatIsNot0To2() {
        FlagChips x = oneChip();
        x.say(0, true);
        Check.refusesOutside(x, "word(0, 0, #)", INDEX, 0, 2, n -> x.word(0, 0, n));
        Check.due("word(0, 0, 0)", x.word(0, 0, 0), 1);
        Check.due("word(0, 0, 2)", x.word(0, 0, 2), 0);
    }

    /** "5 .. (0 without words), 6 .., 0 without words": also with a delay, in storms, and behind hush. */
    private static void promise13WithoutWords() {
        FlagChips x = new FlagChips();
        x.hill(3, 9);
        x.setDelay(0, 7);
        x.setStorm(7, 99);
        dueAbout(x, 0, 3, 9, 7, 0, 0, 0, 0);
        x.say(0, true);
        Check.due("its end with a word", x.about(0, 5), 15);
        Check.due("the least heard of it", x.about(0, 6), 99 + 72);
        x.hush(0);
        dueAbout(x, 0, 3, 9, 7, 0, 0, 0, 0);
    }

    private static void dueAbout(FlagChips x, int hill, int... due) {
        for (int what = 0; what < due.length; what++) {
            Check.due("about(" + hill + ", " + what + ")", x.about(hill, what), due[what]);
        }
    }

    /** "3 its words": none, one, 12, none of the others'. */
    private static void promise13Words() {
        FlagChips x = oneChip();
        x.hill(0, 1);
        Check.due("without words", x.about(0, 3), 0);
        x.say(0, false);
        Check.due("with one", x.about(0, 3), 1);
        sayTwelve(x, 1);
        Check.due("with 12", x.about(1, 3), 12);
        Check.due("with one next to the other's 12", x.about(0, 3), 1);
    }

    /** "4 those of them that are heard wrongly": none, some, all; nothing heard is wrong. */
    private static void promise13HeardWrongly() {
        FlagChips x = oneChip();
        sayTwelve(x, 0);
        Check.due("none", x.about(0, 4), 0);
        x.setStorm(0, -1);
        Check.due("one that is not heard", x.about(0, 4), 1);
        x.setStorm(11, 1);
        Check.due("the last one as well", x.about(0, 4), 2);
        x.setStorm(12, -99);
        Check.due("the storm behind it does nothing", x.about(0, 4), 2);
        for (int place = 0; place < 12; place++) {
            x.setStorm(place, place % 2 == 0 ? -99 : 99);
        }
        Check.due("all", x.about(0, 4), 12);
    }

    /** "5 the chip of time ahead of which its last word is over": the delay counts. */
    private static void promise13ItsLastWordIsOver() {
        for (int power = 0; power <= 4; power++) {
            int length = LENGTHS[power];
            FlagChips x = withPower(power);
            x.hill(0, 1);
            x.say(0, true);
            Check.due("one word", x.about(0, 5), length);
            x.setDelay(0, length - 1);
            Check.due("one word, as late as can be", x.about(0, 5), 2 * length - 1);
            x.hush(0);
            sayTwelve(x, 0);
            Check.due("12 words, as late as can be", x.about(0, 5), 13 * length - 1);
            x.setDelay(0, 0);
            Check.due("12 words", x.about(0, 5), 12 * length);
        }
    }

    /** "6 the least, without signs, of what is heard of its words": whichever of them it is, and 0. */
    private static void promise13TheLeastWithoutSigns() {
        FlagChips x = oneChip();
        x.setStrength(0, 5);
        x.say(0, true);
        x.say(0, false);
        x.say(0, true);
        Check.due("all alike", x.about(0, 6), 5);
        x.setStorm(0, 10);
        x.setStorm(1, -2);
        x.setStorm(2, 3);
        Check.due("the second, -7", x.about(0, 6), 7);
        x.setStorm(0, -4);
        Check.due("the first, 1", x.about(0, 6), 1);
        x.setStorm(2, -5);
        Check.due("the last, 0", x.about(0, 6), 0);
        x.setStorm(2, -8);
        x.setStorm(0, -9);
        Check.due("the last, -3, heard wrongly", x.about(0, 6), 3);
    }

    /** "Throws IndexOutOfBoundsException if there is no such hill". */
    private static void promise13NoSuchHill() {
        FlagChips x = new FlagChips();
        Check.refusesOutside(x, "about(#, 0) without hills", INDEX, 0, -1, n -> x.about(n, 0));
        x.hill(4, 1);
        x.hill(5, 1);
        Check.refusesOutside(x, "about(#, 6)", INDEX, 0, 1, n -> x.about(n, 6));
        Check.due("about(0, 0)", x.about(0, 0), 4);
        Check.due("about(1, 0)", x.about(1, 0), 5);
    }

    /** "or what is not 0 to 6". */
    private static void promise13WhatIsNot0To6() {
        FlagChips x = new FlagChips();
        x.hill(4, 1);
        x.say(0, true);
        Check.refusesOutside(x, "about(0, #)", INDEX, 0, 6, n -> x.about(0, n));
        dueAbout(x, 0, 4, 1, 0, 1, 0, 8, 8);
    }

    private static void dueCount(FlagChips x, int... due) {
        for (int what = 0; what < due.length; what++) {
            Check.due("count(" + what + ")", x.count(what), due[what]);
        }
    }

    private static void promise14WithoutHills() {
        for (int power = 0; power <= 4; power++) {
            FlagChips x = withPower(power);
            x.setStorm(0, -99);
            dueCount(x, LENGTHS[power], 0, 0, 0, 0, 0, LENGTHS[power]);
        }
    }

    /** "4 the chip of time ahead of which all words are over", "5 .. (0 without words)": hills alone make none. */
    private static void promise14WithoutWords() {
        FlagChips x = new FlagChips();
        x.setStorm(0, 99);
        x.hill(1, 9);
        x.setDelay(0, 7);
        dueCount(x, 8, 1, 0, 0, 0, 0, 7);
        x.say(0, true);
        dueCount(x, 8, 1, 1, 0, 15, 99, 7);
        x.hush(0);
        dueCount(x, 8, 1, 0, 0, 0, 0, 7);
    }

    /** "1 hills, 2 words of all": up to 8 times 12. */
    private static void promise14WordsOfAll() {
        FlagChips x = withPower(0);
        for (int hill = 0; hill < 8; hill++) {
            x.hill(0, 1);
            Check.due("hills", x.count(1), hill + 1);
            Check.due("words with a hill without", x.count(2), 12 * hill);
            sayTwelve(x, hill);
            Check.due("words", x.count(2), 12 * (hill + 1));
        }
        x.hush(3);
        Check.due("words behind hush", x.count(2), 84);
    }

    /** "3 those of them that are heard wrongly": of all hills, none to all of them. */
    private static void promise14HeardWronglyOfAll() {
        FlagChips x = withPower(0);
        for (int hill = 0; hill < 8; hill++) {
            x.hill(0, 1);
            sayTwelve(x, hill);
        }
        Check.due("none", x.count(3), 0);
        x.setStorm(11, 8);
        Check.due("the last of each, not heard", x.count(3), 8);
        for (int place = 0; place < 12; place++) {
            x.setStorm(place, place % 2 == 0 ? -99 : 99);
        }
        Check.due("all", x.count(3), 96);
    }

    /** "4 the chip of time ahead of which all words are over": whichever hill is the last. */
    private static void promise14AllWordsAreOver() {
        FlagChips x = withPower(4);
        x.hill(0, 1);
        x.hill(1, 1);
        x.hill(2, 1);
        x.say(1, true);
        Check.due("of one word", x.count(4), 16);
        x.setDelay(1, 3);
        Check.due("of one late word", x.count(4), 19);
        x.say(0, true);
        Check.due("of an earlier hill", x.count(4), 19);
        x.setDelay(0, 15);
        Check.due("of the first hill", x.count(4), 31);
        x.setDelay(2, 15);
        Check.due("next to a hill without words", x.count(4), 31);
        sayTwelve(x, 2);
        Check.due("of the last hill, as late as can be", x.count(4), 207);
        x.hush(2);
        Check.due("behind hush", x.count(4), 31);
    }

    /** "5 the highest sky of all chips ahead of that, from 0 on, without its sign": chip 0, the last, not the next. */
    private static void promise14TheHighestSky() {
        FlagChips x = new FlagChips();
        x.hill(0, 2);
        x.setDelay(0, 3);
        x.say(0, false);
        Check.due("of the hill alone", x.count(5), 2);
        x.setStorm(11, 50);
        Check.due("not the chip at the end", x.count(5), 2);
        x.setStorm(10, 6);
        Check.due("the last chip ahead of it", x.count(5), 4);
        x.setStorm(0, 5);
        Check.due("chip 0, ahead of the first word", x.count(5), 5);
        x.setStorm(1, -6);
        Check.due("one below 0", x.count(5), 6);
        x.setStorm(4, -97);
        Check.due("the storm and the hill", x.count(5), 99);
        FlagChips y = oneChip();
        y.say(0, true);
        y.setStorm(0, -1);
        Check.due("a sky of 0", y.count(5), 0);
        y.hill(0, 9);
        sayTwelve(y, 1);
        y.setStorm(11, -99);
        Check.due("the highest is the last", y.count(5), 108);
    }

    /** "6 codes that no hill has": all, some, none; a code that several have counts once. */
    private static void promise14CodesThatNoHillHas() {
        FlagChips x = new FlagChips();
        Check.due("all", x.count(6), 8);
        x.hill(7, 1);
        Check.due("without the last", x.count(6), 7);
        x.hill(7, 2);
        Check.due("with the last twice", x.count(6), 7);
        x.hill(0, 3);
        Check.due("without the first", x.count(6), 6);
        x.setCodes(3);
        for (int code = 0; code < 8; code++) {
            x.hill(code, 1);
        }
        Check.due("none", x.count(6), 0);
        x.setCodes(4);
        for (int code = 0; code < 8; code++) {
            x.hill(15 - code, 1);
        }
        Check.due("eight of 16", x.count(6), 8);
        x.setCodes(0);
        Check.due("the only one", x.count(6), 1);
        x.hill(0, 1);
        Check.due("not the only one", x.count(6), 0);
    }

    /** "Throws IndexOutOfBoundsException if what is not 0 to 6". */
    private static void promise14WhatIsNot0To6() {
        FlagChips x = new FlagChips();
        Check.refusesOutside(x, "count(#)", INDEX, 0, 6, n -> x.count(n));
        Check.due("count(0)", x.count(0), 8);
        Check.due("count(6)", x.count(6), 8);
    }
}
