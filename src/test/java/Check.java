/** Counts the answers that are not as due; each test ends with it. */
final class Check {
    private static int wrong = 0;

    private Check() {
    }

    /** A call that is to throw. */
    interface Call {
        void run();
    }

    static void due(String call, long got, long want) {
        if (got != want) {
            fail(call + " answered " + got + ", due is " + want);
        }
    }

    static void due(String call, double got, double want) {
        if (!(got == want)) {
            fail(call + " answered " + got + ", due is " + want);
        }
    }

    static void holds(String what, boolean so) {
        if (!so) {
            fail(what + " does not hold");
        }
    }

    /** The call is to throw just this exception by its own throw, and to change nothing that the object tells. */
    static void refuses(FlagChips x, String call, Class<? extends RuntimeException> due, Call run) {
        long before = x.digest();
        String got = "nothing";
        try {
            run.run();
        } catch (RuntimeException e) {
            got = thrown(e, FlagChips.class);
        }
        if (!got.equals(due.getName())) {
            fail(call + " threw " + got + ", due is " + due.getName());
        }
        if (x.digest() != before) {
            fail(call + " changed the object");
        }
    }

    /** The exception's name, and a word more if a library's check threw it and not a throw of this class. */
    static String thrown(Throwable e, Class<?> thrower) {
        StackTraceElement[] trace = e.getStackTrace();
        boolean own = trace.length > 0 && trace[0].getClassName().startsWith(thrower.getName());
        return e.getClass().getName() + (own ? "" : " from the library");
    }

    static void fail(String text) {
        wrong++;
        System.out.println(text);
    }

    /** Ends the program with 1 if anything was wrong. */
    static void end() {
        if (wrong != 0) {
            System.out.println(wrong + " checks failed");
            System.exit(1);
        }
    }
}
