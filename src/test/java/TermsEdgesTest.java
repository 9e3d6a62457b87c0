/** The sentences of "Terms" that name a boundary, each with a test of its own. */
final class TermsEdgesTest {
    private static final Class<IndexOutOfBoundsException> INDEX = IndexOutOfBoundsException.class;
    private static final Class<IllegalArgumentException> ARGUMENT = IllegalArgumentException.class;
    private static final Class<IllegalStateException> STATE = IllegalStateException.class;

    private static final int[] LENGTHS = {1, 2, 4, 8, 16};

    private TermsEdgesTest() {
    }

    public static void main(String[] args) {
        lengths();
        codesFrom0();
        placesFrom0();
        onesInCommon();
        rowsOfAllCodes();
        atMost8Hills();
        strengths();
        delays();
        atMost12Words();
        newHillsHaveNoDelayAndNoWords();
        hillsSignalFromTheirDelayOn();
        tableOfStorms();
        stormsByTheRemainderOf20();
        skyAddsAll();
        listeningForLChips();
        listeningFromPlace0();
        wordsHeardWrongly();
        likenessAroundTheEnd();
        likenessWithoutSign();
        Check.end();
    }

    private static FlagChips withPower(int power) {
        FlagChips x = new FlagChips();
        x.setCodes(power);
        return x;
    }

    /** "L is 1, 2, 4, 8 or 16 (8, at first)". */
    private static void lengths() {
        Check.due("L at first", new FlagChips().count(0), 8);
        for (int power = 0; power < LENGTHS.length; power++) {
            Check.due("L of power " + power, withPower(power).count(0), LENGTHS[power]);
        }
    }

    /** "there are L codes, 0 to L - 1". */
    private static void codesFrom0() {
        for (int power = 0; power < LENGTHS.length; power++) {
            FlagChips x = withPower(power);
            int last = LENGTHS[power] - 1;
            Check.due("chip(0, 0)", x.chip(0, 0), 1);
            Check.due("chip(" + last + ", 0)", x.chip(last, 0), 1);
            Check.refusesOutside(x, "chip(#, 0)", INDEX, 0, last, n -> x.chip(n, 0));
            Check.due("hill(" + last + ", 1)", x.hill(last, 1), 0);
            Check.refusesOutside(x, "hill(#, 1)", INDEX, 0, last, n -> x.hill(n, 1));
            Check.due("hear(" + last + ", 0)", x.hear(last, 0), 0);
            Check.refusesOutside(x, "hear(#, 0)", INDEX, 0, last, n -> x.hear(n, 0));
            Check.due("alike(" + last + ", " + last + ", 0)", x.alike(last, last, 0), LENGTHS[power]);
            Check.refusesOutside(x, "alike(#, 0, 0)", INDEX, 0, last, n -> x.alike(n, 0, 0));
            Check.refusesOutside(x, "alike(0, #, 0)", INDEX, 0, last, n -> x.alike(0, n, 0));
            Check.due("shift(" + last + ", " + last + ")", x.shift(last, last), 0);
            Check.refusesOutside(x, "shift(#, 0)", INDEX, 0, last, n -> x.shift(n, 0));
            Check.refusesOutside(x, "shift(0, #)", INDEX, 0, last, n -> x.shift(0, n));
        }
    }

    /** "their chips are at places from 0 on": L of them. */
    private static void placesFrom0() {
        for (int power = 0; power < LENGTHS.length; power++) {
            FlagChips x = withPower(power);
            int last = LENGTHS[power] - 1;
            Check.due("chip(0, " + last + ")", x.chip(0, last), 1);
            Check.refusesOutside(x, "chip(0, #)", INDEX, 0, last, n -> x.chip(0, n));
            Check.refusesOutside(x, "chip(" + last + ", #)", INDEX, 0, last, n -> x.chip(last, n));
        }
    }

    /** "1, if .. an even number of ones in common (at the same places, none as well), otherwise -1". */
    private static void onesInCommon() {
        FlagChips x = withPower(4);
        Check.due("none, of two without any", x.chip(0, 0), 1);
        Check.due("none, of code 0", x.chip(0, 15), 1);
        Check.due("none, of place 0", x.chip(15, 0), 1);
        Check.due("none, at other places", x.chip(10, 5), 1);
        Check.due("none, one each at other places", x.chip(1, 8), 1);
        Check.due("one, the lowest", x.chip(1, 1), -1);
        Check.due("one, the highest", x.chip(8, 8), -1);
        Check.due("one of two", x.chip(3, 6), -1);
        Check.due("two", x.chip(3, 3), 1);
        Check.due("two, apart", x.chip(9, 15), 1);
        Check.due("three", x.chip(7, 7), -1);
        Check.due("three of four", x.chip(15, 13), -1);
        Check.due("four", x.chip(15, 15), 1);
    }

    private static void rowsOfAllCodes() {
        for (int power = 0; power < LENGTHS.length; power++) {
            FlagChips x = withPower(power);
            for (int code = 0; code < LENGTHS[power]; code++) {
                String row = row(code, LENGTHS[power]);
                for (int place = 0; place < LENGTHS[power]; place++) {
                    Check.due("L = " + LENGTHS[power] + ": chip(" + code + ", " + place + ")", x.chip(code, place),
                            row.charAt(place) == '+' ? 1 : -1);
                }
            }
        }
    }

    /** A row by doubling: that of half the length twice, the second time turned for the upper half of the codes. */
    private static String row(int code, int length) {
        if (length == 1) {
            return "+";
        }
        int half = length / 2;
        String first = row(code % half, half);
        String turned = first.replace('+', '.').replace('-', '+').replace('.', '-');
        return first + (code < half ? first : turned);
    }

    /** "Hills. At most 8, numbered from 0". */
    private static void atMost8Hills() {
        for (int power = 0; power < LENGTHS.length; power++) {
            FlagChips x = withPower(power);
            Check.refusesOutside(x, "about(#, 0) without hills", INDEX, 0, -1, n -> x.about(n, 0));
            for (int hill = 0; hill < 8; hill++) {
                Check.due("number of a hill", x.hill(0, 1), hill);
            }
            Check.refuses(x, "a ninth hill", STATE, () -> x.hill(0, 1));
            Check.due("hills behind it", x.count(1), 8);
            Check.refusesOutside(x, "about(#, 0) with 8 hills", INDEX, 0, 7, n -> x.about(n, 0));
        }
    }

    /** "a strength, 1 to 9". */
    private static void strengths() {
        FlagChips x = new FlagChips();
        x.hill(0, 1);
        x.hill(0, 9);
        Check.due("the least strength", x.about(0, 1), 1);
        Check.due("the highest strength", x.about(1, 1), 9);
        Check.refusesOutside(x, "hill(0, #)", ARGUMENT, 1, 9, n -> x.hill(0, n));
        Check.due("setStrength(0, 9)", x.setStrength(0, 9), 1);
        Check.due("setStrength(1, 1)", x.setStrength(1, 1), 9);
        Check.refusesOutside(x, "setStrength(0, #)", ARGUMENT, 1, 9, n -> x.setStrength(0, n));
        Check.refusesOutside(x, "would(0, #)", ARGUMENT, 1, 9, n -> x.would(0, n));
    }

    /** "a delay, 0 to L - 1 chips". */
    private static void delays() {
        for (int power = 0; power < LENGTHS.length; power++) {
            FlagChips x = withPower(power);
            int last = LENGTHS[power] - 1;
            x.hill(0, 1);
            Check.due("setDelay(0, " + last + ")", x.setDelay(0, last), 0);
            Check.due("the longest delay", x.about(0, 2), last);
            Check.refusesOutside(x, "setDelay(0, #)", ARGUMENT, 0, last, n -> x.setDelay(0, n));
            Check.due("setDelay(0, 0)", x.setDelay(0, 0), last);
            Check.due("the least delay", x.about(0, 2), 0);
        }
    }

    /** "a row of words, at most 12, each yes or no". */
    private static void atMost12Words() {
        for (int power = 0; power < LENGTHS.length; power++) {
            FlagChips x = withPower(power);
            x.hill(0, 1);
            for (int word = 0; word < 12; word++) {
                boolean yes = word % 2 == 1;
                Check.due("words", x.say(0, yes), word + 1);
                Check.due("word " + word, x.word(0, word, 0), yes ? 1 : -1);
            }
            Check.refuses(x, "a thirteenth word, yes", STATE, () -> x.say(0, true));
            Check.refuses(x, "a thirteenth word, no", STATE, () -> x.say(0, false));
            Check.due("words behind it", x.about(0, 3), 12);
        }
    }

    /** "a delay .. (0, at first), and a row of words .. (none, at first)": of the next ones and of those behind setCodes. */
    private static void newHillsHaveNoDelayAndNoWords() {
        FlagChips x = new FlagChips();
        for (int round = 0; round < 3; round++) {
            for (int hill = 0; hill < 8; hill++) {
                x.hill(7, 9);
                Check.due("delay at first of hill " + hill, x.about(hill, 2), 0);
                Check.due("words at first of hill " + hill, x.about(hill, 3), 0);
                Check.refuses(x, "word 0 at first of hill " + hill, INDEX, () -> x.word(x.count(1) - 1, 0, 0));
                x.setDelay(hill, 7);
                x.say(hill, true);
            }
            x.setCodes(3);
        }
    }

    /**
     * "from the chip of time k * L and its delay on, for L chips: each time the chip of its code (from the place 0 on),
     * times its strength, times 1 for yes, -1 for no; ahead of its first word and behind its last one 0".
     */
    private static void hillsSignalFromTheirDelayOn() {
        int[] wordCounts = {1, 2, 12};
        for (int power = 0; power < LENGTHS.length; power++) {
            for (int words : wordCounts) {
                dueSignals(power, 0, words);
                dueSignals(power, LENGTHS[power] / 2, words);
                dueSignals(power, LENGTHS[power] - 1, words);
            }
        }
    }

    private static void dueSignals(int power, int delay, int words) {
        int length = LENGTHS[power];
        FlagChips x = withPower(power);
        x.hill(length - 1, 7);
        x.setDelay(0, delay);
        for (int word = 0; word < words; word++) {
            x.say(0, word % 3 == 0);
        }
        String row = row(length - 1, length);
        for (int time = 0; time < delay + words * length + 2 * length; time++) {
            int own = time - delay;
            int due = 0;
            if (own >= 0 && own < words * length) {
                due = (row.charAt(own % length) == '+' ? 7 : -7) * (own / length % 3 == 0 ? 1 : -1);
            }
            Check.due("L = " + length + ", delay " + delay + ", " + words + " words: sky(" + time + ")",
                    x.sky(time), due);
        }
        Check.due("the last chip of all", x.sky(999), 0);
    }

    /** "A table of 20 numbers, -99 to 99 (0, at first)". */
    private static void tableOfStorms() {
        FlagChips x = new FlagChips();
        for (int place = 0; place < 20; place++) {
            Check.due("storm at first", x.setStorm(place, 99), 0);
            Check.due("the highest storm", x.setStorm(place, -99), 99);
            Check.due("the least storm", x.setStorm(place, 0), -99);
        }
        Check.refusesOutside(x, "setStorm(#, 0)", INDEX, 0, 19, n -> x.setStorm(n, 0));
        Check.refusesOutside(x, "setStorm(0, #)", ARGUMENT, -99, 99, n -> x.setStorm(0, n));
        Check.refusesOutside(x, "setStorm(19, #)", ARGUMENT, -99, 99, n -> x.setStorm(19, n));
    }

    /** "the chip of time by the remainder of 20". */
    private static void stormsByTheRemainderOf20() {
        FlagChips x = new FlagChips();
        x.setStorm(0, 50);
        x.setStorm(19, -60);
        int[] first = {0, 20, 40, 200, 220, 980};
        for (int time : first) {
            Check.due("sky(" + time + ")", x.sky(time), 50);
            Check.due("sky(" + (time + 1) + ")", x.sky(time + 1), 0);
            Check.due("sky(" + (time + 18) + ")", x.sky(time + 18), 0);
            Check.due("sky(" + (time + 19) + ")", x.sky(time + 19), -60);
        }
    }

    /** "what all hills signal, and the storm, added": with nothing, with the most and with what levels out. */
    private static void skyAddsAll() {
        Check.due("sky(0) of nothing", new FlagChips().sky(0), 0);
        FlagChips x = withPower(0);
        x.setStorm(0, 99);
        for (int hill = 0; hill < 8; hill++) {
            x.hill(0, 9);
            x.say(hill, true);
            x.say(hill, false);
            x.say(hill, hill < 4);
            Check.due("sky(0) of " + (hill + 1) + " hills", x.sky(0), 99 + 9 * (hill + 1));
        }
        x.setStorm(1, -99);
        Check.due("sky(0), the highest that can be", x.sky(0), 171);
        Check.due("sky(1), the least that can be", x.sky(1), -171);
        Check.due("sky(2), as many yes as no", x.sky(2), 0);
        x.setStorm(0, -72);
        Check.due("sky(0), the storm against all hills", x.sky(0), 0);
    }

    /** "the sky at the L chips from this on": neither the one ahead nor the one behind. */
    private static void listeningForLChips() {
        for (int power = 0; power < LENGTHS.length; power++) {
            int length = LENGTHS[power];
            FlagChips x = withPower(power);
            x.setStorm(2, 90);
            x.setStorm((3 + length) % 20, -80);
            Check.due("L = " + length + ": hear(0, 3) between two storms", x.hear(0, 3), 0);
            x.setStorm(2 + length, 7);
            Check.due("L = " + length + ": hear(0, 3) with its last chip", x.hear(0, 3), 7);
            x.setStorm(2 + length, 0);
            x.setStorm(3, 5);
            Check.due("L = " + length + ": hear(0, 3) with its first chip", x.hear(0, 3), 5);
        }
    }

    /** "each times the chip of the code (from the place 0 on)": the chip of time that one listens from is place 0. */
    private static void listeningFromPlace0() {
        for (int power = 1; power < LENGTHS.length; power++) {
            FlagChips x = withPower(power);
            for (int time = 1; time <= 19; time++) {
                x.setStorm(time - 1, 0);
                x.setStorm(time, 3);
                Check.due("hear(1, " + time + "), at place 0", x.hear(1, time), 3);
                Check.due("hear(1, " + (time - 1) + "), at place 1", x.hear(1, time - 1), -3);
            }
        }
    }

    /** "yes, if it is more than 0, no, if less, nothing, if 0"; "hears anything else (nothing as well)" is wrong. */
    private static void wordsHeardWrongly() {
        FlagChips x = withPower(0);
        x.hill(0, 1);
        x.say(0, true);
        x.say(0, false);
        dueHeard(x, 0, 0, 1, 0);
        dueHeard(x, 0, -1, 0, 1);
        dueHeard(x, 0, -2, -1, 1);
        dueHeard(x, 0, 99, 100, 0);
        dueHeard(x, 0, -99, -98, 1);
        dueHeard(x, 1, 0, -1, 0);
        dueHeard(x, 1, 1, 0, 1);
        dueHeard(x, 1, 2, 1, 1);
        dueHeard(x, 1, -99, -100, 0);
        dueHeard(x, 1, 99, 98, 1);
    }

    private static void dueHeard(FlagChips x, int word, int storm, int heard, int wrong) {
        x.setStorm(word, storm);
        Check.due("word " + word + " in a storm of " + storm, x.word(0, word, 1), heard);
        Check.due("word " + word + " in a storm of " + storm + ", wrong", x.word(0, word, 2), wrong);
        x.setStorm(word, 0);
    }

    /** "the chip of the one at each place, and that of the other one at the place and s more (around the end)". */
    private static void likenessAroundTheEnd() {
        for (int power = 0; power < LENGTHS.length; power++) {
            int last = LENGTHS[power] - 1;
            FlagChips x = withPower(power);
            for (int a = 0; a <= last; a += Math.max(1, last / 3)) {
                for (int b = 0; b <= last; b += Math.max(1, last / 5)) {
                    Check.due("alike(" + a + ", " + b + ", 0), none around", x.alike(a, b, 0), alike(a, b, 0, last + 1));
                    Check.due("alike(" + a + ", " + b + ", 1), one around", x.alike(a, b, last == 0 ? 0 : 1),
                            alike(a, b, last == 0 ? 0 : 1, last + 1));
                    Check.due("alike(" + a + ", " + b + ", " + last + "), all but one around", x.alike(a, b, last),
                            alike(a, b, last, last + 1));
                }
            }
        }
    }

    /** By the rows as texts: the other's one is cut at the shift, and its front put behind its end. */
    private static int alike(int a, int b, int shift, int length) {
        String one = row(a, length);
        String other = row(b, length).substring(shift) + row(b, length).substring(0, shift);
        int same = 0;
        for (int place = 0; place < length; place++) {
            same += one.charAt(place) == other.charAt(place) ? 1 : 0;
        }
        return Math.abs(same - (length - same));
    }

    /** "added; without its sign": these add up to less than 0. */
    private static void likenessWithoutSign() {
        Check.due("L = 2: +- and -+", withPower(1).alike(1, 1, 1), 2);
        Check.due("L = 4: ++-- and --++", withPower(2).alike(2, 2, 2), 4);
        Check.due("L = 8: ++++---- and ----++++", withPower(3).alike(4, 4, 4), 8);
        Check.due("L = 8: +--+-++- and -++-+--+", withPower(3).alike(7, 7, 4), 8);
        Check.due("L = 16: code 8 half around", withPower(4).alike(8, 8, 8), 16);
        Check.due("L = 4: ++++ and +--+, as much as less", withPower(2).alike(0, 3, 1), 0);
        Check.due("L = 1: + and +", withPower(0).alike(0, 0, 0), 1);
    }
}
