/** Promises 9 to 14: chips, the sky, and what is heard. */
final class SkyTest {
    private static final Class<IndexOutOfBoundsException> INDEX = IndexOutOfBoundsException.class;
    private static final Class<IllegalArgumentException> ARGUMENT = IllegalArgumentException.class;

    private SkyTest() {
    }

    public static void main(String[] args) {
        promise9Chip();
        promise10Sky();
        promise11Hear();
        promise12Word();
        promise13About();
        promise14Count();
        promise14CountAtItsEdges();
        Check.end();
    }

    /**
     * Codes of 4 chips: hill 0 with +-+-, strength 2, yes and no; hill 1 with +--+, strength 3, delay 2, yes.
     * The sky from 0 on: 2, -2, 5, -5, -5, 5, -2, 2, and 0 from 8 on.
     */
    private static FlagChips twoHills() {
        FlagChips x = new FlagChips();
        x.setCodes(2);
        x.hill(1, 2);
        x.hill(3, 3);
        x.say(0, true);
        x.say(0, false);
        x.say(1, true);
        x.setDelay(1, 2);
        return x;
    }

    /** At chip 2 a storm drowns the first word of hill 0 and blots out that of hill 1. */
    private static FlagChips twoHillsInStorm() {
        FlagChips x = twoHills();
        x.setStorm(2, -20);
        return x;
    }

    private static void promise9Chip() {
        FlagChips x = new FlagChips();
        String[] rows = {"++++++++", "+-+-+-+-", "++--++--", "+--++--+", "++++----", "+-+--+-+", "++----++", "+--+-++-"};
        for (int code = 0; code < 8; code++) {
            for (int place = 0; place < 8; place++) {
                int due = rows[code].charAt(place) == '+' ? 1 : -1;
                Check.due("chip(" + code + ", " + place + ")", x.chip(code, place), due);
            }
        }
        Check.refuses(x, "chip(8, 0)", INDEX, () -> x.chip(8, 0));
        Check.refuses(x, "chip(-1, 0)", INDEX, () -> x.chip(-1, 0));
        Check.refuses(x, "chip(0, 8)", INDEX, () -> x.chip(0, 8));
        Check.refuses(x, "chip(0, -1)", INDEX, () -> x.chip(0, -1));
        x.setCodes(4);
        Check.due("chip(15, 15)", x.chip(15, 15), 1);
        Check.due("chip(15, 14)", x.chip(15, 14), -1);
        Check.due("chip(8, 7)", x.chip(8, 7), 1);
        Check.refuses(x, "chip(16, 0)", INDEX, () -> x.chip(16, 0));
        x.setCodes(0);
        Check.due("chip(0, 0)", x.chip(0, 0), 1);
        Check.refuses(x, "chip(0, 1)", INDEX, () -> x.chip(0, 1));
    }

    private static void promise10Sky() {
        FlagChips x = twoHills();
        int[] due = {2, -2, 5, -5, -5, 5, -2, 2, 0, 0};
        for (int time = 0; time < due.length; time++) {
            Check.due("sky(" + time + ")", x.sky(time), due[time]);
        }
        x.setStorm(2, -20);
        Check.due("sky(2) with the storm", x.sky(2), -15);
        Check.due("sky(22)", x.sky(22), -20);
        Check.due("sky(982)", x.sky(982), -20);
        Check.due("sky(999)", x.sky(999), 0);
        Check.refuses(x, "sky(-1)", ARGUMENT, () -> x.sky(-1));
        Check.refuses(x, "sky(1000)", ARGUMENT, () -> x.sky(1000));
        Check.refuses(x, "sky(least)", ARGUMENT, () -> x.sky(Integer.MIN_VALUE));
        Check.refuses(x, "sky(most)", ARGUMENT, () -> x.sky(Integer.MAX_VALUE));

        FlagChips longest = new FlagChips();
        longest.setCodes(4);
        longest.hill(15, 9);
        for (int k = 0; k < 12; k++) {
            longest.say(0, true);
        }
        longest.setDelay(0, 15);
        Check.due("sky(14) ahead of the longest row", longest.sky(14), 0);
        Check.due("sky(15) at its first chip", longest.sky(15), 9);
        Check.due("sky(191) at the first chip of its last word", longest.sky(191), 9);
        Check.due("sky(206) at its last chip", longest.sky(206), 9);
        Check.due("sky(207) behind it", longest.sky(207), 0);
    }

    private static void promise11Hear() {
        FlagChips x = twoHills();
        Check.due("hear(1, 0)", x.hear(1, 0), 14);
        Check.due("hear(1, 4)", x.hear(1, 4), -14);
        Check.due("hear(3, 2)", x.hear(3, 2), 20);
        Check.due("hear(0, 0)", x.hear(0, 0), 0);
        Check.due("hear(3, 1)", x.hear(3, 1), -7);
        Check.due("hear(3, 6)", x.hear(3, 6), -4);
        Check.due("hear(3, 8)", x.hear(3, 8), 0);
        x.setStorm(2, -20);
        x.setStorm(19, 7);
        Check.due("hear(0, 999), beyond the last chip that sky takes", x.hear(0, 999), -13);
        Check.due("hear(1, 999)", x.hear(1, 999), 27);
        Check.refuses(x, "hear(4, 0)", INDEX, () -> x.hear(4, 0));
        Check.refuses(x, "hear(-1, 0)", INDEX, () -> x.hear(-1, 0));
        Check.refuses(x, "hear(4, 1000)", INDEX, () -> x.hear(4, 1000));
        Check.refuses(x, "hear(0, 1000)", ARGUMENT, () -> x.hear(0, 1000));
        Check.refuses(x, "hear(0, -1)", ARGUMENT, () -> x.hear(0, -1));
    }

    private static void promise12Word() {
        FlagChips x = twoHills();
        dueWord(x, 0, 0, 1, 14, 0);
        dueWord(x, 0, 1, -1, -14, 0);
        dueWord(x, 1, 0, 1, 20, 0);
        x.setStorm(2, -20);
        dueWord(x, 0, 0, 1, -6, 1);
        dueWord(x, 0, 1, -1, -14, 0);
        dueWord(x, 1, 0, 1, 0, 1);
        x.setStorm(5, -20);
        dueWord(x, 0, 1, -1, 6, 1);
        x.setStorm(5, -6);
        dueWord(x, 0, 1, -1, -8, 0);
        x.setStorm(5, -14);
        dueWord(x, 0, 1, -1, 0, 1);
        Check.refuses(x, "word(2, 0, 0)", INDEX, () -> x.word(2, 0, 0));
        Check.refuses(x, "word(-1, 0, 0)", INDEX, () -> x.word(-1, 0, 0));
        Check.refuses(x, "word(0, 2, 0)", INDEX, () -> x.word(0, 2, 0));
        Check.refuses(x, "word(0, -1, 0)", INDEX, () -> x.word(0, -1, 0));
        Check.refuses(x, "word(0, 12, 0)", INDEX, () -> x.word(0, 12, 0));
        Check.refuses(x, "word(0, 0, 3)", INDEX, () -> x.word(0, 0, 3));
        Check.refuses(x, "word(0, 0, -1)", INDEX, () -> x.word(0, 0, -1));
        x.hush(0);
        Check.refuses(x, "word(0, 0, 0) behind hush", INDEX, () -> x.word(0, 0, 0));
    }

    private static void dueWord(FlagChips x, int hill, int word, int sign, int heard, int wrong) {
        String call = "word(" + hill + ", " + word + ", ";
        Check.due(call + "0)", x.word(hill, word, 0), sign);
        Check.due(call + "1)", x.word(hill, word, 1), heard);
        Check.due(call + "2)", x.word(hill, word, 2), wrong);
    }

    private static void promise13About() {
        FlagChips x = twoHillsInStorm();
        dueAbout(x, 0, 1, 2, 0, 2, 1, 8, 6);
        dueAbout(x, 1, 3, 3, 2, 1, 1, 6, 0);
        x.setStorm(2, 0);
        dueAbout(x, 0, 1, 2, 0, 2, 0, 8, 14);
        dueAbout(x, 1, 3, 3, 2, 1, 0, 6, 20);
        x.hush(1);
        dueAbout(x, 1, 3, 3, 2, 0, 0, 0, 0);
        dueAbout(x, 0, 1, 2, 0, 2, 0, 8, 8);
        x.setStorm(4, -30);
        dueAbout(x, 0, 1, 2, 0, 2, 0, 8, 8);
        Check.due("the louder word", x.word(0, 1, 1), -38);
        Check.refuses(x, "about(2, 0)", INDEX, () -> x.about(2, 0));
        Check.refuses(x, "about(-1, 0)", INDEX, () -> x.about(-1, 0));
        Check.refuses(x, "about(0, 7)", INDEX, () -> x.about(0, 7));
        Check.refuses(x, "about(0, -1)", INDEX, () -> x.about(0, -1));
    }

    private static void dueAbout(FlagChips x, int hill, int... due) {
        for (int what = 0; what < due.length; what++) {
            Check.due("about(" + hill + ", " + what + ")", x.about(hill, what), due[what]);
        }
    }

    private static void promise14Count() {
        FlagChips x = twoHills();
        dueCount(x, 4, 2, 3, 0, 8, 5, 2);
        x.setStorm(2, -20);
        dueCount(x, 4, 2, 3, 2, 8, 15, 2);
        x.setStorm(8, 99);
        dueCount(x, 4, 2, 3, 2, 8, 15, 2);
        x.hill(3, 9);
        x.setDelay(2, 3);
        dueCount(x, 4, 3, 3, 2, 8, 15, 2);
        x.setDelay(1, 3);
        x.say(1, false);
        Check.due("count(4) with the later hill's end", x.count(4), 11);
        Check.due("count(5) with the storm at 8", x.count(5), 99 + 3);
        x.hill(0, 1);
        Check.due("count(6)", x.count(6), 1);
        x.hill(2, 1);
        Check.due("count(6) with all codes taken", x.count(6), 0);
        Check.refuses(x, "count(7)", INDEX, () -> x.count(7));
        Check.refuses(x, "count(-1)", INDEX, () -> x.count(-1));
    }

    private static void promise14CountAtItsEdges() {
        FlagChips x = new FlagChips();
        x.setStorm(0, -50);
        x.hill(0, 1);
        x.setDelay(0, 7);
        dueCount(x, 8, 1, 0, 0, 0, 0, 7);
        x.say(0, true);
        dueCount(x, 8, 1, 1, 0, 15, 50, 7);
        x.setStorm(15, 51);
        Check.due("count(5) leaves out the chip at the end", x.count(5), 50);
        x.setStorm(14, 98);
        Check.due("count(5) takes the last chip ahead of it", x.count(5), 99);
    }

    private static void dueCount(FlagChips x, int... due) {
        for (int what = 0; what < due.length; what++) {
            Check.due("count(" + what + ")", x.count(what), due[what]);
        }
    }
}
