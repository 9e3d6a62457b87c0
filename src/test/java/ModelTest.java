import java.lang.reflect.InvocationTargetException;
import java.lang.reflect.Method;
import java.util.Arrays;
import java.util.Random;

/** Long runs of mixed calls, right and wrong ones, against the slow model of the document. */
final class ModelTest {
    private static final int RUNS = 300;
    // With a digest each 16 calls these are 510 calls of an object, of the 512 that are promised.
    private static final int CALLS = 480;
    private static final int CALLS_A_DIGEST = 16;

    /** Each call with what its numbers mean; next to it, how often it comes. */
    private static final String[] KINDS = {
        "setCodes power", "hill code strength", "say hill yes", "hush hill", "setDelay hill delay",
        "setStrength hill strength", "setStorm place storm", "chip code code", "sky time", "hear code time",
        "word hill word three", "about hill seven", "count seven", "alike code code delay", "shift code code",
        "advise delay", "would hill strength", "tune hill", "mean", "digest"};
    private static final int[] OFTEN = {1, 9, 25, 3, 6, 5, 4, 3, 5, 5, 8, 7, 7, 3, 3, 5, 5, 4, 3, 1};

    private static final int[] ODD = {-1, Integer.MIN_VALUE, Integer.MAX_VALUE, 20, 100, 1000, -100};

    private final Random random;
    private final FlagChips x = new FlagChips();
    private final Model model = new Model();

    private ModelTest(long seed) {
        random = new Random(seed);
    }

    public static void main(String[] args) throws ReflectiveOperationException {
        for (int run = 0; run < RUNS; run++) {
            new ModelTest(run).play(run);
        }
        Check.end();
    }

    private void play(int run) throws ReflectiveOperationException {
        for (int n = 0; n < CALLS; n++) {
            String[] kind = (n == 0 ? KINDS[0] : nextKind()).split(" ");
            Object[] with = new Object[kind.length - 1];
            for (int i = 0; i < with.length; i++) {
                with[i] = kind[i + 1].equals("yes") ? (Object) random.nextBoolean() : (Object) number(kind[i + 1]);
            }
            if (!agree(run, n, kind[0], with) || n % CALLS_A_DIGEST == 0 && !agree(run, n, "digest")) {
                return;
            }
        }
    }

    private boolean agree(int run, int n, String name, Object... with) throws ReflectiveOperationException {
        String got = answer(x, name, with);
        String due = answer(model, name, with);
        if (!got.equals(due)) {
            Check.fail("run " + run + ", call " + n + ": " + name + " with " + Arrays.toString(with)
                    + " answered " + got + ", due is " + due);
        }
        return got.equals(due);
    }

    private static String answer(Object target, String name, Object... with) throws ReflectiveOperationException {
        Class<?>[] types = new Class<?>[with.length];
        for (int i = 0; i < with.length; i++) {
            types[i] = with[i] instanceof Boolean ? boolean.class : int.class;
        }
        Method method = target.getClass().getDeclaredMethod(name, types);
        try {
            return String.valueOf(method.invoke(target, with));
        } catch (InvocationTargetException e) {
            return "throws " + Check.thrown(e.getCause(), target.getClass());
        }
    }

    /** Codes are changed seldom, so that hills and words gather. */
    private String nextKind() {
        int left = random.nextInt(Arrays.stream(OFTEN).sum());
        int kind = 0;
        while (left >= OFTEN[kind]) {
            left -= OFTEN[kind];
            kind++;
        }
        return KINDS[kind];
    }

    private int number(String meaning) {
        if (random.nextInt(40) == 0) {
            return ODD[random.nextInt(ODD.length)];
        }
        switch (meaning) {
            case "power":
                return upTo(5);
            case "code":
            case "delay":
                return upTo(model.count(0));
            case "strength":
                return 1 + upTo(9);
            case "hill":
                return upTo(model.count(1));
            case "word":
                return random.nextInt(6);
            case "place":
                return upTo(20);
            case "storm":
                return random.nextInt(3) == 0 ? random.nextInt(203) - 101 : random.nextInt(9) - 4;
            case "time":
                return upTo(random.nextBoolean() ? 210 : 1000);
            case "three":
                return upTo(3);
            case "seven":
                return upTo(7);
            default:
                throw new IllegalStateException(meaning);
        }
    }

    /** From 0 on below the end, and now and then the end itself. */
    private int upTo(int end) {
        return random.nextInt(30) == 0 || end == 0 ? end : random.nextInt(end);
    }
}
