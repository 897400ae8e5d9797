/** Promises 18, 19, 21, 40, 42 and 44: normal and dual trees, faces, and the check of all. */
public final class CountTests {
    private final Check check = new Check();

    private CountTests() {
    }

    public static void main(String[] args) {
        CountTests tests = new CountTests();
        tests.withoutOperations();
        tests.binary();
        tests.rightAlone();
        tests.ternary();
        tests.many();
        tests.mixed();
        tests.outOfRange();
        tests.inverse();
        tests.inverseWrong();
        tests.shares();
        tests.faces();
        tests.sound();
        tests.check.end();
    }

    private static Operadry with(int... widths) {
        Operadry x = new Operadry();
        for (int width : widths) {
            x.operation(width);
        }
        return x;
    }

    private void counts(String what, Operadry x, long[] normals, long[] duals) {
        for (int i = 0; i < normals.length; i++) {
            check.due("18: " + what + ", " + (i + 1), x.normals(i + 1), normals[i]);
        }
        for (int i = 0; i < duals.length; i++) {
            check.due("19: " + what + ", " + (i + 1), x.duals(i + 1), duals[i]);
        }
    }

    private void withoutOperations() {
        counts("no operation", new Operadry(), new long[] {1, 0, 0, 0, 0, 0, 0, 0, 0, 0},
                new long[] {1, 0, 0, 0, 0, 0, 0, 0, 0, 0});
    }

    private void binary() {
        Operadry x = with(2);
        counts("all", x, new long[] {1, 1, 2, 5, 14, 42, 132, 429, 1430, 4862},
                new long[] {1, 1, 0, 0, 0, 0, 0, 0, 0, 0});
        int left = Check.tree(x, "00999");
        x.rule(left, Check.sum(x, "1 09099"));
        counts("to the right", x, new long[] {1, 1, 1, 1, 1, 1, 1, 1, 1, 1},
                new long[] {1, 1, 1, 1, 1, 1, 1, 1, 1, 1});
        x.rule(Check.tree(x, "09099"), x.sum());
        counts("to nothing", x, new long[] {1, 1, 0, 0, 0, 0, 0, 0, 0, 0},
                new long[] {1, 1, 2, 5, 14, 42, 132, 429, 1430, 4862});
    }

    /** One operation, at whose right another one goes away: then the left one alone is met. */
    private void rightAlone() {
        Operadry x = with(2, 2);
        x.rule(Check.tree(x, "09199"), x.sum());
        counts("two operations", x, new long[] {1, 2, 7, 30}, new long[] {1, 2, 1, 0});
        x.rule(Check.tree(x, "10999"), x.sum());
        counts("two rules", x, new long[] {1, 2, 6}, new long[] {1, 2, 2, 2});
    }

    private void ternary() {
        Operadry x = with(3);
        counts("wide", x, new long[] {1, 0, 1, 0, 3, 0, 12, 0, 55, 0},
                new long[] {1, 0, 1, 0, 0, 0, 0, 0, 0, 0});
        x.rule(Check.tree(x, "0909999"), x.sum());
        counts("wide, the middle alone", x, new long[] {1, 0, 1, 0, 2, 0, 5},
                new long[] {1, 0, 1, 0, 1, 0, 1, 0, 1, 0});
    }

    private void many() {
        Operadry x = with(2, 2, 2, 2);
        counts("four", x, new long[] {1, 4, 32, 320, 3584, 43008, 540672, 7028736, 93716480,
            1274544128L}, new long[] {1, 4, 0});
    }

    private void mixed() {
        Operadry x = with(2, 3);
        counts("both", x, new long[] {1, 1, 3, 10, 38, 154, 654, 2871, 12925, 59345},
                new long[] {1, 1, 1, 0, 0});
    }

    private void outOfRange() {
        Operadry x = with(2);
        for (int inputs : new int[] {0, -1, 11, Integer.MIN_VALUE, Integer.MAX_VALUE}) {
            check.thrown("18: " + inputs, IllegalArgumentException.class, () -> x.normals(inputs));
            check.thrown("19: " + inputs, IllegalArgumentException.class, () -> x.duals(inputs));
            check.thrown("42: " + inputs, IllegalArgumentException.class,
                    () -> (long) x.normalShare(inputs));
        }
    }

    private void inverse() {
        check.due("21: no operation", new Operadry().isInverse(8), true);
        Operadry x = with(2);
        for (int inputs = 1; inputs <= 8; inputs++) {
            check.due("21: all, " + inputs, x.isInverse(inputs), true);
        }
        x.rule(Check.tree(x, "00999"), Check.sum(x, "1 09099"));
        for (int inputs = 1; inputs <= 8; inputs++) {
            check.due("21: to the right, " + inputs, x.isInverse(inputs), true);
        }
        Operadry y = with(2, 2, 2, 2);
        y.rule(Check.tree(y, "39099"), y.sum());
        y.rule(Check.tree(y, "12999"), y.sum());
        y.rule(Check.tree(y, "00999"), y.sum());
        check.due("21: four and three rules", y.isInverse(8), true);
        check.due("21: one input", y.isInverse(1), true);
    }

    private void inverseWrong() {
        Operadry x = with(2, 3);
        check.thrown("21: wide", UnsupportedOperationException.class,
                () -> Check.bit(x.isInverse(1)));
        check.thrown("21: wide", UnsupportedOperationException.class,
                () -> Check.bit(x.isInverse(8)));
        check.thrown("21: range, first", IllegalArgumentException.class,
                () -> Check.bit(x.isInverse(0)));
        check.thrown("21: range, first", IllegalArgumentException.class,
                () -> Check.bit(x.isInverse(9)));
        Operadry y = with(2);
        check.thrown("21: 0", IllegalArgumentException.class, () -> Check.bit(y.isInverse(0)));
        check.thrown("21: 9", IllegalArgumentException.class, () -> Check.bit(y.isInverse(9)));
        check.thrown("21: wide without two", UnsupportedOperationException.class,
                () -> Check.bit(with(3).isInverse(3)));
    }

    private void shares() {
        Operadry x = new Operadry();
        check.due("42: the input", x.normalShare(1) == 1.0f, true);
        check.thrown("42: none", ArithmeticException.class, () -> (long) x.normalShare(2));
        check.thrown("42: range, first", IllegalArgumentException.class,
                () -> (long) x.normalShare(11));
        x.operation(2);
        check.due("42: all", x.normalShare(10) == 1.0f, true);
        x.rule(Check.tree(x, "00999"), x.sum());
        check.due("42: one of 14", x.normalShare(5) == 1.0f / 14.0f, true);
        check.due("42: one of 4862", x.normalShare(10) == 1.0f / 4862.0f, true);
        x.rule(Check.tree(x, "09099"), x.sum());
        check.due("42: none of 2", x.normalShare(3) == 0.0f, true);
        Operadry y = with(3);
        check.thrown("42: none of 4", ArithmeticException.class, () -> (long) y.normalShare(4));
        check.due("42: of 5", y.normalShare(5) == 1.0f, true);
        Operadry z = with(2, 2, 2, 2);
        z.rule(Check.tree(z, "00999"), z.sum());
        check.due("42: both as floats",
                z.normalShare(10) == (float) z.normals(10) / (float) 1274544128L, true);
    }

    private void faces() {
        Operadry x = new Operadry();
        long[][] want = {{1}, {2, 1}, {5, 5, 1}, {14, 21, 9, 1}, {42, 84, 56, 14, 1}};
        for (int inputs = 2; inputs <= 6; inputs++) {
            for (int dimension = 0; dimension < want[inputs - 2].length; dimension++) {
                check.due("40: " + inputs + ", " + dimension, x.faces(inputs, dimension),
                        want[inputs - 2][dimension]);
            }
            check.due("40: beyond " + inputs, x.faces(inputs, inputs - 1), 0);
            check.due("40: below " + inputs, x.faces(inputs, -1), 0);
        }
        check.due("40: corners of 12", x.faces(12, 0), 58786);
        check.due("40: 12, 5", x.faces(12, 5), 259896);
        check.due("40: 12 itself", x.faces(12, 10), 1);
        check.due("40: far below", x.faces(12, Integer.MIN_VALUE), 0);
        check.due("40: far beyond", x.faces(12, Integer.MAX_VALUE), 0);
        for (int inputs : new int[] {1, 13, 0, -5, Integer.MIN_VALUE, Integer.MAX_VALUE}) {
            check.thrown("40: " + inputs, IllegalArgumentException.class,
                    () -> x.faces(inputs, -1));
        }
    }

    private void sound() {
        Operadry x = with(2, 3, 2);
        check.due("44: operations", x.isSound(), true);
        x.rule(Check.tree(x, "02999"), Check.sum(x, "-3 09099", "8 1999"));
        x.rule(Check.tree(x, "190999"), x.sum());
        x.rule(Check.tree(x, "091999"), x.sum());
        check.due("44: rules", x.isSound(), true);
        for (String row : new String[] {"0", "00", "0011", "00112233", "00123456", "00000000"}) {
            Check.shrub(x, row);
        }
        check.due("44: shrubs", x.isSound(), true);
        for (String row : new String[] {"0", "21021021", "00000000", "01201202", "2", "10"}) {
            Check.word(x, row);
        }
        check.due("44: words", x.isSound(), true);
        Check.row(x, "0123");
        check.due("44: the typed row does not matter", x.isSound(), true);
        check.due("44: nothing has changed", x.wipe(), 4);
    }
}
