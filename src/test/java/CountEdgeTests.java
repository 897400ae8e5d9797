/**
 * Promises 18, 19, 21, 40, 42 and 44, where they end: the last numbers that are taken, and the
 * first that are not.
 */
public final class CountEdgeTests {
    private static final Class<IllegalArgumentException> ARGUMENT = IllegalArgumentException.class;
    private static final Class<ArithmeticException> ARITHMETIC = ArithmeticException.class;

    private final Check check = new Check();

    private CountEdgeTests() {
    }

    public static void main(String[] args) {
        CountEdgeTests tests = new CountEdgeTests();
        tests.normalsOf1To10();
        tests.dualsOf1To10();
        tests.oneInputAndOneOperationAreDual();
        tests.allOrNoneAreNormal();
        tests.fourWideOperations();
        tests.inverseUpTo1To8();
        tests.inverseWithoutWideOperations();
        tests.facesOf2To12();
        tests.facesOfEachDimension();
        tests.allFaces();
        tests.sharesOf1To10();
        tests.sharesOfNone();
        tests.bothAreConverted();
        tests.soundWhenEmptyAndFull();
        tests.check.end();
    }

    private void refuse(String what, Class<? extends RuntimeException> kind, Check.Call call) {
        check.thrown(what, kind, call);
    }

    private void normalsOf1To10() {
        Operadry x = Made.with(2);
        refuse("18: 0", ARGUMENT, () -> x.normals(0));
        check.due("18: 1", x.normals(1), 1);
        check.due("18: 2", x.normals(2), 1);
        check.due("18: 9", x.normals(9), 1430);
        check.due("18: 10", x.normals(10), 4862);
        refuse("18: 11", ARGUMENT, () -> x.normals(11));
        Operadry y = Made.with(2, 2, 2, 2);
        check.due("18: 10 of four operations", y.normals(10), 4862L << 18);
    }

    private void dualsOf1To10() {
        Operadry x = Made.with(2);
        x.rule(Check.tree(x, "00999"), x.sum());
        refuse("19: 0", ARGUMENT, () -> x.duals(0));
        for (int inputs = 1; inputs <= 10; inputs++) {
            check.due("19: " + inputs, x.duals(inputs), 1);
        }
        refuse("19: 11", ARGUMENT, () -> x.duals(11));
        x.rule(Check.tree(x, "09099"), x.sum());
        check.due("19: 10, all of them", x.duals(10), 4862);
    }

    private void oneInputAndOneOperationAreDual() {
        Operadry none = new Operadry();
        check.due("19: the input without operations", none.duals(1), 1);
        check.due("19: 2 without operations", none.duals(2), 0);
        Operadry x = Made.with(2, 3, 3, 2);
        check.due("19: the input", x.duals(1), 1);
        check.due("19: one narrow operation", x.duals(2), 2);
        check.due("19: one wide operation", x.duals(3), 2);
        check.due("19: two narrow ones are not", x.duals(4), 0);
        x.rule(Check.tree(x, "091999"), x.sum());
        check.due("19: two that are met", x.duals(4), 1);
    }

    private void allOrNoneAreNormal() {
        Operadry x = Made.with(2);
        x.rule(Check.tree(x, "00999"), x.sum());
        x.rule(Check.tree(x, "09099"), 0);
        check.due("18: one input", x.normals(1), 1);
        check.due("18: one operation", x.normals(2), 1);
        check.due("18: two operations", x.normals(3), 0);
        check.due("18: nine operations", x.normals(10), 0);
        Operadry none = new Operadry();
        check.due("18: the input without operations", none.normals(1), 1);
        check.due("18: 10 without operations", none.normals(10), 0);
    }

    private void fourWideOperations() {
        Operadry x = Made.with(3, 3, 3, 3);
        check.due("18: 3", x.normals(3), 4);
        check.due("18: 9", x.normals(9), 55 * 256);
        check.due("18: 10", x.normals(10), 0);
        check.due("19: 3", x.duals(3), 4);
        x.rule(Check.tree(x, "3993999"), x.sum());
        check.due("18: at the last input of the last one", x.normals(5), 48 - 1);
        check.due("19: at the last input of the last one", x.duals(9), 1);
        check.due("19: at the last input of the last one", x.duals(10), 0);
    }

    private void inverseUpTo1To8() {
        Operadry x = Made.with(2, 2);
        x.rule(Check.tree(x, "01999"), x.sum());
        refuse("21: 0", ARGUMENT, () -> Check.bit(x.isInverse(0)));
        for (int inputs = 1; inputs <= 8; inputs++) {
            check.due("21: up to " + inputs, x.isInverse(inputs), true);
        }
        refuse("21: 9", ARGUMENT, () -> Check.bit(x.isInverse(9)));
        check.due("21: without operations, up to 1", new Operadry().isInverse(1), true);
        check.due("21: without operations, up to 8", new Operadry().isInverse(8), true);
    }

    private void inverseWithoutWideOperations() {
        Class<UnsupportedOperationException> unsupported = UnsupportedOperationException.class;
        Operadry x = Made.with(2, 2, 2);
        check.due("21: three narrow operations", x.isInverse(1), true);
        x.operation(3);
        refuse("21: and a wide one", unsupported, () -> Check.bit(x.isInverse(1)));
        refuse("21: and a wide one", unsupported, () -> Check.bit(x.isInverse(8)));
        refuse("21: 0, first", ARGUMENT, () -> Check.bit(x.isInverse(0)));
        refuse("21: 9, first", ARGUMENT, () -> Check.bit(x.isInverse(9)));
        Operadry y = Made.with(3, 2);
        refuse("21: a wide one first", unsupported, () -> Check.bit(y.isInverse(1)));
        check.due("21: four narrow ones", Made.with(2, 2, 2, 2).isInverse(8), true);
    }

    private void facesOf2To12() {
        Operadry x = new Operadry();
        refuse("40: 1", ARGUMENT, () -> x.faces(1, 0));
        check.due("40: 2", x.faces(2, 0), 1);
        check.due("40: 12, corners", x.faces(12, 0), 58786);
        check.due("40: 12, edges", x.faces(12, 1), 58786 * 10 / 2);
        check.due("40: 12, the greatest but one", x.faces(12, 9), 65);
        refuse("40: 13", ARGUMENT, () -> x.faces(13, 0));
        refuse("40: 1, of no dimension", ARGUMENT, () -> x.faces(1, -1));
        refuse("40: 13, of no dimension", ARGUMENT, () -> x.faces(13, 12));
    }

    private void facesOfEachDimension() {
        Operadry x = new Operadry();
        for (int inputs = 2; inputs <= 12; inputs++) {
            check.due("40: -1 of " + inputs, x.faces(inputs, -1), 0);
            check.due("40: 0 of " + inputs, x.faces(inputs, 0) > 0, true);
            check.due("40: the whole of " + inputs, x.faces(inputs, inputs - 2), 1);
            check.due("40: beyond the whole of " + inputs, x.faces(inputs, inputs - 1), 0);
            check.due("40: least of " + inputs, x.faces(inputs, Integer.MIN_VALUE), 0);
            check.due("40: most of " + inputs, x.faces(inputs, Integer.MAX_VALUE), 0);
        }
    }

    /** All trees without regard to the dimension, and with signs by it. */
    private void allFaces() {
        Operadry x = new Operadry();
        long[] due = {1, 3, 11, 45, 197, 903, 4279, 20793, 103049, 518859, 2646723};
        for (int inputs = 2; inputs <= 12; inputs++) {
            long all = 0;
            long turned = 0;
            for (int dimension = 0; dimension <= inputs - 2; dimension++) {
                long many = x.faces(inputs, dimension);
                all += many;
                turned += dimension % 2 == 0 ? many : -many;
            }
            check.due("40: all of " + inputs, all, due[inputs - 2]);
            check.due("40: in turns, of " + inputs, turned, 1);
        }
    }

    private void sharesOf1To10() {
        Operadry x = Made.with(2);
        x.rule(Check.tree(x, "00999"), x.sum());
        refuse("42: 0", ARGUMENT, () -> (long) x.normalShare(0));
        check.due("42: 1", x.normalShare(1) == 1.0f, true);
        check.due("42: 2", x.normalShare(2) == 1.0f, true);
        check.due("42: 3", x.normalShare(3) == 0.5f, true);
        check.due("42: 10", x.normalShare(10) == 1.0f / 4862.0f, true);
        refuse("42: 11", ARGUMENT, () -> (long) x.normalShare(11));
    }

    private void sharesOfNone() {
        Operadry none = new Operadry();
        check.due("42: the input without operations", none.normalShare(1) == 1.0f, true);
        refuse("42: 2 without operations", ARITHMETIC, () -> (long) none.normalShare(2));
        refuse("42: 10 without operations", ARITHMETIC, () -> (long) none.normalShare(10));
        refuse("42: 0 without operations", ARGUMENT, () -> (long) none.normalShare(0));
        refuse("42: 11 without operations", ARGUMENT, () -> (long) none.normalShare(11));
        Operadry wide = Made.with(3);
        refuse("42: 2 of a wide one", ARITHMETIC, () -> (long) wide.normalShare(2));
        check.due("42: 3 of a wide one", wide.normalShare(3) == 1.0f, true);
        refuse("42: 4 of a wide one", ARITHMETIC, () -> (long) wide.normalShare(4));
        Operadry x = Made.with(2);
        x.rule(Check.tree(x, "00999"), x.sum());
        x.rule(Check.tree(x, "09099"), 0);
        check.due("42: there are trees, and none is normal", x.normalShare(3) == 0.0f, true);
        check.due("42: there are trees, and none is normal", x.normalShare(10) == 0.0f, true);
    }

    /** Their quotient is another one where only it is converted. */
    private void bothAreConverted() {
        Operadry x = Made.with(2, 2, 2);
        x.sum();
        for (String left : new String[] {"02999", "20999", "12999"}) {
            x.rule(Check.tree(x, left), 0);
        }
        check.due("18: of three operations", x.normals(10), 20819307);
        check.due("42: both as floats", x.normalShare(10) == 20819307.0f / 95698746.0f, true);
        check.due("42: not their quotient as one",
                x.normalShare(10) == (float) (20819307.0 / 95698746.0), false);
    }

    private void soundWhenEmptyAndFull() {
        check.due("44: a new object", new Operadry().isSound(), true);
        check.due("44: half full", Made.half("9").isSound(), true);
        check.due("44: full", Made.full("9").isSound(), true);
        check.due("44: at the ends of a long", Made.ends().isSound(), true);
        check.due("44: four wide operations", Made.with(3, 3, 3, 3).isSound(), true);
    }
}
