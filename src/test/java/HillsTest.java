/** Promises 1 to 8: a new object, codes, hills, words and storms. */
final class HillsTest {
    private static final Class<IndexOutOfBoundsException> INDEX = IndexOutOfBoundsException.class;
    private static final Class<IllegalArgumentException> ARGUMENT = IllegalArgumentException.class;
    private static final Class<IllegalStateException> STATE = IllegalStateException.class;

    private HillsTest() {
    }

    public static void main(String[] args) {
        promise1NewObject();
        promise2SetCodes();
        promise2StormsStay();
        promise3Hill();
        promise4Say();
        promise5Hush();
        promise6SetDelay();
        promise7SetStrength();
        promise8SetStorm();
        Check.end();
    }

    private static void promise1NewObject() {
        FlagChips x = new FlagChips();
        int[] due = {8, 0, 0, 0, 0, 0, 8};
        for (int what = 0; what < due.length; what++) {
            Check.due("new: count(" + what + ")", x.count(what), due[what]);
        }
        for (int time = 0; time <= 999; time += 3) {
            Check.due("new: sky(" + time + ")", x.sky(time), 0);
        }
        for (int place = 0; place < 20; place++) {
            Check.due("new: setStorm(" + place + ", 0)", x.setStorm(place, 0), 0);
        }
        Check.due("new: mean()", x.mean(), 0.0);
        Check.refuses(x, "new: about(0, 0)", INDEX, () -> x.about(0, 0));

        FlagChips other = new FlagChips();
        other.hill(1, 9);
        other.say(0, true);
        other.setStorm(0, 5);
        Check.due("objects share nothing: count(1)", x.count(1), 0);
        Check.due("objects share nothing: sky(0)", x.sky(0), 0);
    }

    private static void promise2SetCodes() {
        FlagChips x = new FlagChips();
        int before = 8;
        int[] powers = {0, 1, 2, 3, 4, 4, 0};
        for (int power : powers) {
            x.hill(0, 5);
            x.say(0, true);
            x.setDelay(0, x.count(0) - 1);
            Check.due("setCodes(" + power + ")", x.setCodes(power), before);
            before = 1 << power;
            Check.due("L behind setCodes(" + power + ")", x.count(0), before);
            Check.due("hills behind it", x.count(1), 0);
            Check.due("words behind it", x.count(2), 0);
            Check.due("end behind it", x.count(4), 0);
            Check.due("free codes behind it", x.count(6), before);
            for (int time = 0; time < 50; time++) {
                Check.due("sky(" + time + ") behind it", x.sky(time), 0);
            }
            Check.due("a hill behind it has number", x.hill(before - 1, 1), 0);
            Check.due("its delay", x.about(0, 2), 0);
            Check.due("its words", x.about(0, 3), 0);
            x.setCodes(power);
        }
        x.hill(0, 5);
        x.say(0, true);
        int[] wrong = {-1, 5, 31, 32, 33, Integer.MIN_VALUE, Integer.MAX_VALUE};
        for (int power : wrong) {
            Check.refuses(x, "setCodes(" + power + ")", ARGUMENT, () -> x.setCodes(power));
        }
    }

    private static void promise2StormsStay() {
        FlagChips x = new FlagChips();
        x.setStorm(0, 99);
        x.setStorm(19, -99);
        x.setCodes(2);
        Check.due("sky(0) with the storm that stays", x.sky(0), 99);
        Check.due("sky(39) with the storm that stays", x.sky(39), -99);
        Check.due("setStorm(0, 1)", x.setStorm(0, 1), 99);
    }

    private static void promise3Hill() {
        FlagChips x = new FlagChips();
        for (int h = 0; h < 8; h++) {
            int code = h < 6 ? h : 5;
            Check.due("hill(" + code + ", " + (h + 1) + ")", x.hill(code, h + 1), h);
            Check.due("its code", x.about(h, 0), code);
            Check.due("its strength", x.about(h, 1), h + 1);
            Check.due("its delay", x.about(h, 2), 0);
            Check.due("its words", x.about(h, 3), 0);
            Check.due("hills", x.count(1), h + 1);
        }
        Check.refuses(x, "a ninth hill", STATE, () -> x.hill(0, 1));
        Check.refuses(x, "a ninth hill of strength 10", ARGUMENT, () -> x.hill(0, 10));
        Check.refuses(x, "a ninth hill of code 8 and strength 10", INDEX, () -> x.hill(8, 10));
        Check.refuses(x, "a ninth hill of code -1", INDEX, () -> x.hill(-1, 1));

        FlagChips y = new FlagChips();
        Check.refuses(y, "hill(8, 1)", INDEX, () -> y.hill(8, 1));
        Check.refuses(y, "hill(-1, 1)", INDEX, () -> y.hill(-1, 1));
        Check.refuses(y, "hill(-1, 0)", INDEX, () -> y.hill(-1, 0));
        Check.refuses(y, "hill(0, 0)", ARGUMENT, () -> y.hill(0, 0));
        Check.refuses(y, "hill(0, 10)", ARGUMENT, () -> y.hill(0, 10));
        Check.due("hill(7, 9)", y.hill(7, 9), 0);
        y.setCodes(0);
        Check.refuses(y, "hill(1, 1) with one code", INDEX, () -> y.hill(1, 1));
        Check.due("hill(0, 1)", y.hill(0, 1), 0);
        y.setCodes(4);
        Check.refuses(y, "hill(16, 1)", INDEX, () -> y.hill(16, 1));
        Check.due("hill(15, 1)", y.hill(15, 1), 0);
    }

    private static void promise4Say() {
        FlagChips x = new FlagChips();
        Check.refuses(x, "say(0, true) without hills", INDEX, () -> x.say(0, true));
        x.hill(0, 3);
        x.hill(7, 1);
        for (int k = 0; k < 12; k++) {
            boolean yes = k % 3 == 0;
            Check.due("say(0, " + yes + ")", x.say(0, yes), k + 1);
            Check.due("the word", x.word(0, k, 0), yes ? 1 : -1);
            Check.due("the sky of its first chip", x.sky(8 * k), yes ? 3 : -3);
            Check.due("the sky of its last chip", x.sky(8 * k + 7), yes ? 3 : -3);
            Check.due("the sky behind it", x.sky(8 * k + 8), 0);
        }
        Check.refuses(x, "a thirteenth word", STATE, () -> x.say(0, true));
        Check.refuses(x, "say(2, true)", INDEX, () -> x.say(2, true));
        Check.refuses(x, "say(-1, true)", INDEX, () -> x.say(-1, true));
        Check.due("say(1, true) of the other hill", x.say(1, true), 1);
    }

    private static void promise5Hush() {
        FlagChips x = new FlagChips();
        Check.refuses(x, "hush(0) without hills", INDEX, () -> x.hush(0));
        x.hill(0, 3);
        x.hill(0, 5);
        Check.due("hush(0) without words", x.hush(0), 0);
        for (int k = 0; k < 12; k++) {
            x.say(0, k != 4);
        }
        x.say(1, false);
        Check.due("hush(0)", x.hush(0), 12);
        Check.due("words behind it", x.about(0, 3), 0);
        Check.due("words of the other hill", x.about(1, 3), 1);
        Check.due("sky(0) behind it", x.sky(0), -5);
        Check.due("sky(8) behind it", x.sky(8), 0);
        Check.due("sky(95) behind it", x.sky(95), 0);
        Check.due("strength behind it", x.about(0, 1), 3);
        x.setDelay(0, 4);
        x.setStrength(0, 6);
        Check.due("sky(4) with another delay and strength behind it", x.sky(4), -5);
        x.setDelay(0, 0);
        x.setStrength(0, 3);
        Check.due("say(0, false) behind it", x.say(0, false), 1);
        Check.due("sky(0) with it", x.sky(0), -8);
        Check.refuses(x, "hush(2)", INDEX, () -> x.hush(2));
        Check.refuses(x, "hush(-1)", INDEX, () -> x.hush(-1));
    }

    private static void promise6SetDelay() {
        FlagChips x = new FlagChips();
        Check.refuses(x, "setDelay(0, 0) without hills", INDEX, () -> x.setDelay(0, 0));
        x.hill(1, 2);
        x.say(0, true);
        Check.due("setDelay(0, 7)", x.setDelay(0, 7), 0);
        Check.due("its delay", x.about(0, 2), 7);
        for (int time = 0; time < 20; time++) {
            int due = time < 7 || time >= 15 ? 0 : time % 2 == 1 ? 2 : -2;
            Check.due("sky(" + time + ") with delay 7", x.sky(time), due);
        }
        x.say(0, true);
        Check.due("the second word begins at 15", x.sky(15), 2);
        Check.due("setDelay(0, 3)", x.setDelay(0, 3), 7);
        Check.due("setDelay(0, 0)", x.setDelay(0, 0), 3);
        Check.due("sky(0) without delay", x.sky(0), 2);
        Check.due("sky(16) without delay", x.sky(16), 0);
        Check.refuses(x, "setDelay(0, 8)", ARGUMENT, () -> x.setDelay(0, 8));
        Check.refuses(x, "setDelay(0, -1)", ARGUMENT, () -> x.setDelay(0, -1));
        Check.refuses(x, "setDelay(1, 8)", INDEX, () -> x.setDelay(1, 8));
        Check.refuses(x, "setDelay(-1, 0)", INDEX, () -> x.setDelay(-1, 0));
        x.setCodes(0);
        x.hill(0, 1);
        Check.due("setDelay(0, 0) with one chip", x.setDelay(0, 0), 0);
        Check.refuses(x, "setDelay(0, 1) with one chip", ARGUMENT, () -> x.setDelay(0, 1));
    }

    private static void promise7SetStrength() {
        FlagChips x = new FlagChips();
        Check.refuses(x, "setStrength(0, 1) without hills", INDEX, () -> x.setStrength(0, 1));
        x.hill(1, 2);
        x.say(0, true);
        x.say(0, false);
        Check.due("setStrength(0, 9)", x.setStrength(0, 9), 2);
        Check.due("its strength", x.about(0, 1), 9);
        Check.due("sky(0)", x.sky(0), 9);
        Check.due("sky(1)", x.sky(1), -9);
        Check.due("sky(8)", x.sky(8), -9);
        Check.due("setStrength(0, 1)", x.setStrength(0, 1), 9);
        Check.due("setStrength(0, 1) again", x.setStrength(0, 1), 1);
        Check.due("sky(9)", x.sky(9), 1);
        x.say(0, true);
        Check.due("a later word is as strong", x.sky(16), 1);
        Check.refuses(x, "setStrength(0, 0)", ARGUMENT, () -> x.setStrength(0, 0));
        Check.refuses(x, "setStrength(0, 10)", ARGUMENT, () -> x.setStrength(0, 10));
        Check.refuses(x, "setStrength(1, 10)", INDEX, () -> x.setStrength(1, 10));
        Check.refuses(x, "setStrength(-1, 1)", INDEX, () -> x.setStrength(-1, 1));
    }

    private static void promise8SetStorm() {
        FlagChips x = new FlagChips();
        for (int place = 0; place < 20; place++) {
            Check.due("setStorm(" + place + ", .)", x.setStorm(place, place - 9), 0);
        }
        // Not all of them: what an object answers behind its 512th call is free.
        for (int time = 0; time <= 999; time += 3) {
            Check.due("sky(" + time + ") of storms", x.sky(time), time % 20 - 9);
        }
        Check.due("setStorm(19, 99)", x.setStorm(19, 99), 10);
        Check.due("setStorm(19, -99)", x.setStorm(19, -99), 99);
        Check.due("setStorm(19, 0)", x.setStorm(19, 0), -99);
        Check.refuses(x, "setStorm(20, 0)", INDEX, () -> x.setStorm(20, 0));
        Check.refuses(x, "setStorm(-1, 0)", INDEX, () -> x.setStorm(-1, 0));
        Check.refuses(x, "setStorm(20, 100)", INDEX, () -> x.setStorm(20, 100));
        Check.refuses(x, "setStorm(0, 100)", ARGUMENT, () -> x.setStorm(0, 100));
        Check.refuses(x, "setStorm(0, -100)", ARGUMENT, () -> x.setStorm(0, -100));
        Check.refuses(x, "setStorm(0, least)", ARGUMENT, () -> x.setStorm(0, Integer.MIN_VALUE));
    }
}
