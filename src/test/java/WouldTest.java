/** Promises 17 to 21: what would be, the mean and the checksum. */
final class WouldTest {
    private static final Class<IndexOutOfBoundsException> INDEX = IndexOutOfBoundsException.class;
    private static final Class<IllegalArgumentException> ARGUMENT = IllegalArgumentException.class;

    private WouldTest() {
    }

    public static void main(String[] args) {
        promise17Advise();
        promise17AdviseAtItsEdges();
        promise18Would();
        promise19Tune();
        promise20Mean();
        promise21Digest();
        Check.end();
    }

    private static void promise17Advise() {
        FlagChips x = new FlagChips();
        x.hill(4, 2);
        x.setDelay(0, 3);
        for (int code = 0; code < 4; code++) {
            x.hill(code, 1);
        }
        x.hill(5, 3);
        long before = x.digest();
        // Codes 6 and 7 are free; the sums of each, by the delay from 0 on: 8 and 8, 28 and 12, 8 and 32, ..
        int[] due = {6, 7, 6, 6, 6, 7, 6, 6};
        for (int delay = 0; delay < 8; delay++) {
            Check.due("advise(" + delay + ")", x.advise(delay), due[delay]);
        }
        x.setDelay(0, 0);
        Check.due("advise(2), 16 against 24", x.advise(2), 6);
        x.setStrength(0, 4);
        Check.due("advise(2), 32 against 24", x.advise(2), 7);
        x.setStrength(0, 2);
        x.setDelay(0, 3);
        Check.due("nothing is changed", x.digest(), before);
    }

    private static void promise17AdviseAtItsEdges() {
        FlagChips x = new FlagChips();
        Check.due("advise(7) without hills", x.advise(7), 0);
        Check.refuses(x, "advise(8)", ARGUMENT, () -> x.advise(8));
        Check.refuses(x, "advise(-1)", ARGUMENT, () -> x.advise(-1));
        x.hill(0, 1);
        Check.due("advise(0) with code 0 taken", x.advise(0), 1);
        x.setCodes(1);
        x.hill(0, 9);
        Check.due("advise(1) with one code left", x.advise(1), 1);
        x.hill(1, 9);
        Check.due("advise(0) with all codes taken", x.advise(0), -1);
        Check.refuses(x, "advise(2) with all codes taken", ARGUMENT, () -> x.advise(2));
    }

    private static void promise18Would() {
        FlagChips x = againstEachOther();
        long before = x.digest();
        Check.due("would(2, 3), as it is", x.would(2, 3), 2);
        Check.due("would(2, 4)", x.would(2, 4), 1);
        Check.due("would(2, 2)", x.would(2, 2), 1);
        Check.due("would(1, 3)", x.would(1, 3), 2);
        Check.due("would(1, 9)", x.would(1, 9), 1);
        Check.due("would(0, 9), of another code", x.would(0, 9), 2);
        Check.due("nothing is changed", x.digest(), before);
        Check.due("its strength stays", x.about(2, 1), 3);
        Check.due("the sky stays", x.sky(0), 1);
        Check.refuses(x, "would(3, 1)", INDEX, () -> x.would(3, 1));
        Check.refuses(x, "would(-1, 1)", INDEX, () -> x.would(-1, 1));
        Check.refuses(x, "would(3, 0)", INDEX, () -> x.would(3, 0));
        Check.refuses(x, "would(0, 0)", ARGUMENT, () -> x.would(0, 0));
        Check.refuses(x, "would(0, 10)", ARGUMENT, () -> x.would(0, 10));

        FlagChips y = inStorm();
        Check.due("would(0, 3) in the storm", y.would(0, 3), 1);
        Check.due("would(0, 4) in the storm", y.would(0, 4), 0);
    }

    private static void promise19Tune() {
        FlagChips x = againstEachOther();
        long before = x.digest();
        Check.due("tune(1)", x.tune(1), 1);
        Check.due("tune(2)", x.tune(2), 1);
        Check.due("tune(0)", x.tune(0), 1);
        Check.due("nothing is changed", x.digest(), before);
        Check.refuses(x, "tune(3)", INDEX, () -> x.tune(3));
        Check.refuses(x, "tune(-1)", INDEX, () -> x.tune(-1));
        x.setStrength(2, 1);
        Check.due("would(1, 1)", x.would(1, 1), 2);
        Check.due("tune(1) where 1 is the worst", x.tune(1), 2);

        FlagChips y = inStorm();
        Check.due("tune(0) in the storm", y.tune(0), 4);
        y.setStorm(0, -8);
        Check.due("tune(0) in the storm of 8", y.tune(0), 9);
        y.setStorm(0, -9);
        Check.due("tune(0) in the storm of 9, always wrong", y.tune(0), 1);
        y.hush(0);
        Check.due("tune(0) without words", y.tune(0), 1);
    }

    /** Codes of 2 chips: hill 0 alone with its code, hills 1 (yes) and 2 (no) with the same one, both of strength 3. */
    private static FlagChips againstEachOther() {
        FlagChips x = new FlagChips();
        x.setCodes(1);
        x.hill(0, 1);
        x.hill(1, 3);
        x.hill(1, 3);
        x.say(0, true);
        x.say(1, true);
        x.say(2, false);
        return x;
    }

    /** One chip, one hill that says yes, and a storm of -3: it is heard from strength 4 on. */
    private static FlagChips inStorm() {
        FlagChips x = new FlagChips();
        x.setCodes(0);
        x.hill(0, 1);
        x.say(0, true);
        x.setStorm(0, -3);
        return x;
    }

    private static void promise20Mean() {
        FlagChips x = new FlagChips();
        x.setStorm(0, 99);
        Check.due("mean() without hills", x.mean(), 0.0);
        x.hill(0, 3);
        x.setDelay(0, 1);
        Check.due("mean() without words", x.mean(), 0.0);
        x.say(0, false);
        Check.due("mean() with a word", x.mean(), 75.0 / 9);
        x.setStorm(0, 0);
        Check.due("mean() below 0", x.mean(), -24.0 / 9);
        x.setStorm(9, 99);
        Check.due("mean() leaves out the chip at the end", x.mean(), -24.0 / 9);
        x.setStorm(8, 24);
        Check.due("mean() takes the last chip ahead of it", x.mean(), 0.0);
        x.setDelay(0, 0);
        Check.due("mean() without delay", x.mean(), -3.0);
    }

    private static void promise21Digest() {
        FlagChips x = new FlagChips();
        long[] storms = new long[20];
        Check.due("digest() of a new object", x.digest(),
                sum(new long[] {8, 0, 0, 0, 0, 0, 8}, storms));

        x.setCodes(0);
        x.hill(0, 2);
        x.say(0, true);
        x.say(0, false);
        x.setStorm(1, 5);
        x.setStorm(19, -7);
        x.hill(0, 1);
        storms[1] = 5;
        storms[19] = -7;
        Check.due("digest() with two hills", x.digest(),
                sum(new long[] {1, 2, 2, 1, 2, 3, 0}, storms,
                        new long[] {0, 2, 0, 2, 1, 2, 2}, new long[] {1, 2, 0}, new long[] {-1, 3, 1},
                        new long[] {0, 1, 0, 0, 0, 0, 0}));
    }

    private static long sum(long[]... rows) {
        long d = 1621;
        for (long[] row : rows) {
            for (long x : row) {
                d = d * 31 + x;
            }
        }
        return d;
    }
}
