import java.util.function.Consumer;

/** The sentences of "What it is" and "The public face" that name a boundary, each with a test of its own. */
final class FaceEdgesTest {
    private static final Class<IndexOutOfBoundsException> INDEX = IndexOutOfBoundsException.class;
    private static final Class<IllegalArgumentException> ARGUMENT = IllegalArgumentException.class;
    private static final Class<IllegalStateException> STATE = IllegalStateException.class;

    private FaceEdgesTest() {
    }

    public static void main(String[] args) {
        theLastOf512Calls();
        theLastOf512CallsBehindRefusedOnes();
        refusedSettersChangeNothing();
        refusedQuestionsChangeNothing();
        theFirstNamedExceptionOfHill();
        theFirstNamedExceptionOfSetters();
        theFirstNamedExceptionOfQuestions();
        Check.end();
    }

    /** "An object is used for at most 512 calls after it has been made": the last of them answers like any other. */
    private static void theLastOf512Calls() {
        Check.due("512th call: hill(1, 1)", behind511Calls().hill(1, 1), 1);
        Check.due("512th call: say(0, false)", behind511Calls().say(0, false), 2);
        Check.due("512th call: setCodes(0)", behind511Calls().setCodes(0), 16);
        Check.due("512th call: sky(15)", behind511Calls().sky(15), 9);
        Check.due("512th call: hear(0, 0)", behind511Calls().hear(0, 0), 144);
        Check.due("512th call: about(0, 5)", behind511Calls().about(0, 5), 16);
        Check.due("512th call: count(5)", behind511Calls().count(5), 9);
        Check.due("512th call: tune(0)", behind511Calls().tune(0), 1);
        Check.due("512th call: mean()", behind511Calls().mean(), 9.0);
        FlagChips fewer = new FlagChips();
        fewer.setCodes(4);
        fewer.hill(0, 9);
        fewer.say(0, true);
        Check.due("512th call: digest()", behind511Calls().digest(), fewer.digest());
    }

    /** Codes of 16 chips, and a hill with code 0, strength 9 and one word, yes. */
    private static FlagChips behind511Calls() {
        FlagChips x = new FlagChips();
        for (int n = 0; n < 255; n++) {
            x.setCodes(n % 5);
            x.hill(0, 9);
        }
        x.say(0, true);
        return x;
    }

    private static void theLastOf512CallsBehindRefusedOnes() {
        FlagChips x = new FlagChips();
        for (int n = 0; n < 511; n++) {
            try {
                x.hill(0, 0);
                Check.fail("hill(0, 0) threw nothing");
            } catch (IllegalArgumentException due) {
                continue;
            }
        }
        Check.due("512th call: digest() behind refused ones", x.digest(), new FlagChips().digest());
    }

    /** 8 hills of 12, 0, 2, 3, .. words, two of them with the same code, one code free, storms at all places. */
    private static FlagChips full() {
        FlagChips x = new FlagChips();
        for (int hill = 0; hill < 8; hill++) {
            x.hill(hill == 7 ? 6 : hill, hill + 2);
            x.setDelay(hill, 7 - hill);
            int words = hill == 0 ? 12 : hill == 1 ? 0 : hill;
            for (int word = 0; word < words; word++) {
                x.say(hill, (word + hill) % 3 != 0);
            }
        }
        for (int place = 0; place < 20; place++) {
            x.setStorm(place, 3 * place - 31);
        }
        return x;
    }

    /** 3 hills, one with all its words, one with some and one without. */
    private static FlagChips some() {
        FlagChips x = new FlagChips();
        x.setCodes(4);
        for (int word = 0; word < 12; word++) {
            if (word % 4 == 0) {
                x.hill(word, 9);
            }
            x.say(0, word % 2 == 0);
        }
        x.say(1, false);
        x.setDelay(1, 15);
        x.setStorm(19, -99);
        return x;
    }

    /** The calls are to throw; a twin to which nobody spoke tells the same behind them. */
    private static void changesNothing(String name, Consumer<FlagChips> refused) {
        FlagChips x = full();
        refused.accept(x);
        Check.same("behind " + name + " refused, full", x, full());
        FlagChips y = some();
        refused.accept(y);
        Check.same("behind " + name + " refused, some", y, some());
    }

    /** "A method that throws an exception changes nothing": of those that else change something. */
    private static void refusedSettersChangeNothing() {
        changesNothing("setCodes", x -> Check.refusesOutside(x, "setCodes(#)", ARGUMENT, 0, 4, n -> x.setCodes(n)));
        changesNothing("hill", x -> {
            Check.refusesOutside(x, "hill(#, 5)", INDEX, 0, x.count(0) - 1, n -> x.hill(n, 5));
            Check.refusesOutside(x, "hill(0, #)", ARGUMENT, 1, 9, n -> x.hill(0, n));
        });
        FlagChips full = full();
        Check.refuses(full, "a ninth hill", STATE, () -> full.hill(7, 5));
        Check.same("behind a ninth hill refused", full, full());
        changesNothing("say", x -> {
            Check.refusesOutside(x, "say(#, true)", INDEX, 0, x.count(1) - 1, n -> x.say(n, true));
            Check.refuses(x, "a thirteenth word, yes", STATE, () -> x.say(0, true));
            Check.refuses(x, "a thirteenth word, no", STATE, () -> x.say(0, false));
        });
        changesNothing("hush", x -> Check.refusesOutside(x, "hush(#)", INDEX, 0, x.count(1) - 1, n -> x.hush(n)));
        changesNothing("setDelay", x -> {
            Check.refusesOutside(x, "setDelay(#, 2)", INDEX, 0, x.count(1) - 1, n -> x.setDelay(n, 2));
            Check.refusesOutside(x, "setDelay(0, #)", ARGUMENT, 0, x.count(0) - 1, n -> x.setDelay(0, n));
        });
        changesNothing("setStrength", x -> {
            Check.refusesOutside(x, "setStrength(#, 5)", INDEX, 0, x.count(1) - 1, n -> x.setStrength(n, 5));
            Check.refusesOutside(x, "setStrength(0, #)", ARGUMENT, 1, 9, n -> x.setStrength(0, n));
        });
        changesNothing("setStorm", x -> {
            Check.refusesOutside(x, "setStorm(#, 5)", INDEX, 0, 19, n -> x.setStorm(n, 5));
            Check.refusesOutside(x, "setStorm(0, #)", ARGUMENT, -99, 99, n -> x.setStorm(0, n));
        });
    }

    /** "A method that throws an exception changes nothing": of those that change nothing anyhow. */
    private static void refusedQuestionsChangeNothing() {
        changesNothing("chip", x -> {
            Check.refusesOutside(x, "chip(#, 0)", INDEX, 0, x.count(0) - 1, n -> x.chip(n, 0));
            Check.refusesOutside(x, "chip(0, #)", INDEX, 0, x.count(0) - 1, n -> x.chip(0, n));
        });
        changesNothing("sky", x -> Check.refusesOutside(x, "sky(#)", ARGUMENT, 0, 999, n -> x.sky(n)));
        changesNothing("hear", x -> {
            Check.refusesOutside(x, "hear(#, 0)", INDEX, 0, x.count(0) - 1, n -> x.hear(n, 0));
            Check.refusesOutside(x, "hear(0, #)", ARGUMENT, 0, 999, n -> x.hear(0, n));
        });
        changesNothing("word", x -> {
            Check.refusesOutside(x, "word(#, 0, 1)", INDEX, 0, x.count(1) - 1, n -> x.word(n, 0, 1));
            Check.refusesOutside(x, "word(0, #, 1)", INDEX, 0, 11, n -> x.word(0, n, 1));
            Check.refusesOutside(x, "word(0, 0, #)", INDEX, 0, 2, n -> x.word(0, 0, n));
        });
        changesNothing("about", x -> {
            Check.refusesOutside(x, "about(#, 0)", INDEX, 0, x.count(1) - 1, n -> x.about(n, 0));
            Check.refusesOutside(x, "about(0, #)", INDEX, 0, 6, n -> x.about(0, n));
        });
        changesNothing("count", x -> Check.refusesOutside(x, "count(#)", INDEX, 0, 6, n -> x.count(n)));
        changesNothing("alike", x -> {
            Check.refusesOutside(x, "alike(#, 0, 0)", INDEX, 0, x.count(0) - 1, n -> x.alike(n, 0, 0));
            Check.refusesOutside(x, "alike(0, #, 0)", INDEX, 0, x.count(0) - 1, n -> x.alike(0, n, 0));
            Check.refusesOutside(x, "alike(0, 0, #)", ARGUMENT, 0, x.count(0) - 1, n -> x.alike(0, 0, n));
        });
        changesNothing("shift", x -> {
            Check.refusesOutside(x, "shift(#, 0)", INDEX, 0, x.count(0) - 1, n -> x.shift(n, 0));
            Check.refusesOutside(x, "shift(0, #)", INDEX, 0, x.count(0) - 1, n -> x.shift(0, n));
        });
        changesNothing("advise", x ->
                Check.refusesOutside(x, "advise(#)", ARGUMENT, 0, x.count(0) - 1, n -> x.advise(n)));
        changesNothing("would", x -> {
            Check.refusesOutside(x, "would(#, 5)", INDEX, 0, x.count(1) - 1, n -> x.would(n, 5));
            Check.refusesOutside(x, "would(0, #)", ARGUMENT, 1, 9, n -> x.would(0, n));
        });
        changesNothing("tune", x -> Check.refusesOutside(x, "tune(#)", INDEX, 0, x.count(1) - 1, n -> x.tune(n)));
    }

    /** "If several exceptions apply, the one that is named first is thrown": hill names three. */
    private static void theFirstNamedExceptionOfHill() {
        FlagChips x = full();
        Check.refuses(x, "hill without such a code, of strength 0, the ninth", INDEX, () -> x.hill(8, 0));
        Check.refuses(x, "hill without such a code, the ninth", INDEX, () -> x.hill(-1, 9));
        Check.refuses(x, "hill of strength 10, the ninth", ARGUMENT, () -> x.hill(7, 10));
        FlagChips y = some();
        Check.refuses(y, "hill without such a code, of strength 0", INDEX, () -> y.hill(16, 0));
        Check.refuses(y, "hill without such a code, of strength 10", INDEX, () -> y.hill(-1, 10));
    }

    private static void theFirstNamedExceptionOfSetters() {
        FlagChips x = full();
        Check.refuses(x, "say of no hill where a hill has 12 words", INDEX, () -> x.say(8, true));
        Check.refuses(x, "setDelay of no hill to no delay", INDEX, () -> x.setDelay(8, 8));
        Check.refuses(x, "setDelay of hill -1 to -1", INDEX, () -> x.setDelay(-1, -1));
        Check.refuses(x, "setStrength of no hill to 10", INDEX, () -> x.setStrength(8, 10));
        Check.refuses(x, "setStrength of hill -1 to 0", INDEX, () -> x.setStrength(-1, 0));
        Check.refuses(x, "setStorm of place 20 to 100", INDEX, () -> x.setStorm(20, 100));
        Check.refuses(x, "setStorm of place -1 to -100", INDEX, () -> x.setStorm(-1, -100));
    }

    private static void theFirstNamedExceptionOfQuestions() {
        FlagChips x = full();
        Check.refuses(x, "hear with no code at 1000", INDEX, () -> x.hear(8, 1000));
        Check.refuses(x, "hear with code -1 at -1", INDEX, () -> x.hear(-1, -1));
        Check.refuses(x, "alike of no first code by no shift", INDEX, () -> x.alike(8, 0, 8));
        Check.refuses(x, "alike of no second code by no shift", INDEX, () -> x.alike(0, 8, 8));
        Check.refuses(x, "alike of a second code -1 by -1", INDEX, () -> x.alike(0, -1, -1));
        Check.refuses(x, "would of no hill with strength 10", INDEX, () -> x.would(8, 10));
        Check.refuses(x, "would of hill -1 with strength 0", INDEX, () -> x.would(-1, 0));
    }
}
