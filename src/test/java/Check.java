/** Counts the answers that are not as due; each test ends with it. */
final class Check {
    private static int wrong = 0;

    private Check() {
    }

    // A hill's last word is over at 207; a word more than it can have would be at 223.
    private static final int SIGNAL_CHIPS = 240;

    /** A call that is to throw. */
    interface Call {
        void run();
    }

    /** A call that is to throw because of its number. */
    interface NumberCall {
        void run(int number);
    }

    static void due(String call, long got, long want) {
        if (got != want) {
            fail(call + " answered " + got + ", due is " + want);
        }
    }

    static void due(String call, double got, double want) {
        if (!(got == want)) {
            fail(call + " answered " + got + ", due is " + want);
        }
    }

    static void holds(String what, boolean so) {
        if (!so) {
            fail(what + " does not hold");
        }
    }

    /** The call is to throw just this exception by its own throw, and to change nothing that the object tells. */
    static void refuses(FlagChips x, String call, Class<? extends RuntimeException> due, Call run) {
        long before = x.digest();
        String got = "nothing";
        try {
            run.run();
        } catch (RuntimeException e) {
            got = thrown(e, FlagChips.class);
        }
        if (!got.equals(due.getName())) {
            fail(call + " threw " + got + ", due is " + due.getName());
        }
        if (x.digest() != before) {
            fail(call + " changed the object");
        }
    }

    /** The call is refused with the numbers next to the range and with the outermost ones; # is the number's place. */
    static void refusesOutside(FlagChips x, String call, Class<? extends RuntimeException> due, int least, int most,
            NumberCall run) {
        int[] numbers = {least - 1, most + 1, Integer.MIN_VALUE, Integer.MAX_VALUE};
        for (int number : numbers) {
            refuses(x, call.replace("#", String.valueOf(number)), due, () -> run.run(number));
        }
    }

    /** The two tell the same of themselves, and of all chips that hills can signal at; takes 241 calls of each. */
    static void same(String when, FlagChips x, FlagChips other) {
        due(when + ": digest()", x.digest(), other.digest());
        for (int time = 0; time < SIGNAL_CHIPS; time++) {
            due(when + ": sky(" + time + ")", x.sky(time), other.sky(time));
        }
    }

    /** The exception's name, and a word more if a library's check threw it and not a throw of this class. */
    static String thrown(Throwable e, Class<?> thrower) {
        StackTraceElement[] trace = e.getStackTrace();
        boolean own = trace.length > 0 && trace[0].getClassName().startsWith(thrower.getName());
        return e.getClass().getName() + (own ? "" : " from the library");
    }

    static void fail(String text) {
        wrong++;
        System.out.println(text);
    }

    /** Ends the program with 1 if anything was wrong. */
    static void end() {
        if (wrong != 0) {
            System.out.println(wrong + " checks failed");
            System.exit(1);
        }
    }
}
