/** Promises 15 and 16: how far codes are alike. */
final class CodesTest {
    private static final Class<IndexOutOfBoundsException> INDEX = IndexOutOfBoundsException.class;
    private static final Class<IllegalArgumentException> ARGUMENT = IllegalArgumentException.class;

    private CodesTest() {
    }

    public static void main(String[] args) {
        promise15Alike();
        promise16Shift();
        Check.end();
    }

    private static void promise15Alike() {
        FlagChips x = new FlagChips();
        dueAlike(x, 4, 4, 8, 4, 0, 4, 8, 4, 0, 4);
        dueAlike(x, 4, 5, 0, 4, 0, 4, 0, 4, 0, 4);
        dueAlike(x, 4, 6, 0, 4, 8, 4, 0, 4, 8, 4);
        dueAlike(x, 2, 3, 0, 8, 0, 8, 0, 8, 0, 8);
        dueAlike(x, 0, 0, 8, 8, 8, 8, 8, 8, 8, 8);
        dueAlike(x, 0, 7, 0, 0, 0, 0, 0, 0, 0, 0);
        Check.refuses(x, "alike(8, 0, 0)", INDEX, () -> x.alike(8, 0, 0));
        Check.refuses(x, "alike(-1, 0, 0)", INDEX, () -> x.alike(-1, 0, 0));
        Check.refuses(x, "alike(0, 8, 0)", INDEX, () -> x.alike(0, 8, 0));
        Check.refuses(x, "alike(0, -1, 8)", INDEX, () -> x.alike(0, -1, 8));
        Check.refuses(x, "alike(0, 0, 8)", ARGUMENT, () -> x.alike(0, 0, 8));
        Check.refuses(x, "alike(0, 0, -1)", ARGUMENT, () -> x.alike(0, 0, -1));
        x.setCodes(4);
        dueAlike(x, 8, 8, 16, 12, 8, 4, 0, 4, 8, 12, 16, 12, 8, 4, 0, 4, 8, 12);
        dueAlike(x, 15, 14, 0, 12, 0, 4, 0, 4, 0, 12, 0, 12, 0, 4, 0, 4, 0, 12);
        x.setCodes(0);
        dueAlike(x, 0, 0, 1);
        Check.refuses(x, "alike(0, 0, 1) with one chip", ARGUMENT, () -> x.alike(0, 0, 1));
    }

    private static void dueAlike(FlagChips x, int a, int b, int... due) {
        for (int by = 0; by < due.length; by++) {
            Check.due("alike(" + a + ", " + b + ", " + by + ")", x.alike(a, b, by), due[by]);
        }
    }

    private static void promise16Shift() {
        FlagChips x = new FlagChips();
        Check.due("shift(3, 3)", x.shift(3, 3), 0);
        Check.due("shift(2, 3)", x.shift(2, 3), 1);
        Check.due("shift(3, 2)", x.shift(3, 2), 1);
        Check.due("shift(4, 6)", x.shift(4, 6), 2);
        Check.due("shift(4, 5)", x.shift(4, 5), 1);
        Check.due("shift(0, 5), never alike", x.shift(0, 5), 0);
        Check.refuses(x, "shift(8, 0)", INDEX, () -> x.shift(8, 0));
        Check.refuses(x, "shift(0, 8)", INDEX, () -> x.shift(0, 8));
        Check.refuses(x, "shift(-1, 0)", INDEX, () -> x.shift(-1, 0));
        Check.refuses(x, "shift(0, -1)", INDEX, () -> x.shift(0, -1));
        x.setCodes(4);
        Check.due("shift(8, 12), alike the most at 4", x.shift(8, 12), 4);
        Check.due("shift(15, 10), alike the most at 3", x.shift(15, 10), 3);
        x.setCodes(0);
        Check.due("shift(0, 0)", x.shift(0, 0), 0);
    }
}
