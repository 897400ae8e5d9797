/** Promises 29 to 33: methods of steps, weights and orders. */
public final class MethodTests {
    private static final String[] SHRUBS = {"0", "00", "000", "001", "0000", "0001", "0011",
        "0012", "00000", "00123", "00000000", "00123456"};

    private final Check check = new Check();

    private MethodTests() {
    }

    public static void main(String[] args) {
        MethodTests tests = new MethodTests();
        tests.stages();
        tests.steps();
        tests.lasts();
        tests.wrongSteps();
        tests.lowestTerms();
        tests.weights();
        tests.stagesInEachOther();
        tests.lowerBeyondLong();
        tests.upperBeyondLong();
        tests.orders();
        tests.orderOfOneWeight();
        tests.check.end();
    }

    private static Operadry withShrubs() {
        Operadry x = new Operadry();
        for (String row : SHRUBS) {
            Check.shrub(x, row);
        }
        return x;
    }

    private static int shrub(String row) {
        for (int i = 0; i < SHRUBS.length; i++) {
            if (SHRUBS[i].equals(row)) {
                return i;
            }
        }
        return -1;
    }

    /** Numbers of fractions, upper and lower: for each stage those of a, and then those of b. */
    private static void method(Operadry x, int stages, int... numbers) {
        x.stages(stages);
        int next = 0;
        for (int from = 0; from <= stages; from++) {
            for (int to = 0; to < stages; to++) {
                if (from < stages) {
                    x.step(from, to, numbers[next], numbers[next + 1]);
                } else {
                    x.last(to, numbers[next], numbers[next + 1]);
                }
                next += 2;
            }
        }
    }

    private void weight(String what, Operadry x, String row, long upper, long lower) {
        check.due("32: upper, " + what + ", " + row, x.weight(shrub(row), true), upper);
        check.due("32: lower, " + what + ", " + row, x.weight(shrub(row), false), lower);
    }

    private void stages() {
        Operadry x = withShrubs();
        check.due("29: one at first", x.stages(4), 1);
        check.due("29: four", x.stages(2), 4);
        check.due("29: two", x.stages(2), 2);
        x.step(0, 1, 1, 2);
        x.step(1, 1, 1, 2);
        x.last(1, 3, 4);
        check.due("29: all are 0 then", x.stages(2), 2);
        weight("all are 0", x, "0", 0, 1);
        check.due("29: one a alone", x.step(0, 0, 5, 1), 1);
        check.due("29: one b alone", x.last(0, 5, 1), 1);
        for (int stages : new int[] {0, 5, -1, Integer.MIN_VALUE, Integer.MAX_VALUE}) {
            check.thrown("29: " + stages, IllegalArgumentException.class, () -> x.stages(stages));
        }
        weight("nothing has changed", x, "00", 25, 1);
        check.due("29: nothing has changed", x.stages(1), 2);
    }

    private void steps() {
        Operadry x = withShrubs();
        x.stages(3);
        check.due("30: 0", x.step(0, 0, 0, 99), 0);
        check.due("30: first", x.step(0, 2, 99, 1), 1);
        check.due("30: second", x.step(2, 0, -99, 99), 2);
        check.due("30: the same", x.step(2, 0, 5, 7), 2);
        check.due("30: itself", x.step(1, 1, 1, 1), 3);
        check.due("30: 0 again", x.step(0, 2, 0, 5), 2);
        check.due("30: b is none of them", x.last(0, 4, 4), 1);
        check.due("30: still", x.step(0, 0, 0, 1), 2);
    }

    private void lasts() {
        Operadry x = withShrubs();
        x.stages(4);
        check.due("31: 0", x.last(3, 0, 1), 0);
        check.due("31: first", x.last(3, -99, 99), 1);
        check.due("31: second", x.last(0, 99, 1), 2);
        check.due("31: the same", x.last(3, 1, 2), 2);
        check.due("31: 0 again", x.last(0, 0, 3), 1);
        x.step(0, 0, 1, 1);
        check.due("31: a is none of them", x.last(1, 0, 3), 1);
        weight("one of four", x, "0", 1, 2);
    }

    private void wrongSteps() {
        Operadry x = withShrubs();
        x.stages(2);
        x.step(1, 0, 1, 2);
        x.last(1, 2, 3);
        Class<IndexOutOfBoundsException> none = IndexOutOfBoundsException.class;
        Class<IllegalArgumentException> wrong = IllegalArgumentException.class;
        check.thrown("30: from", none, () -> x.step(2, 0, 1, 1));
        check.thrown("30: to", none, () -> x.step(0, 2, 1, 1));
        check.thrown("30: below", none, () -> x.step(-1, 0, 1, 1));
        check.thrown("30: to below", none, () -> x.step(0, -1, 1, 1));
        check.thrown("30: stage first", none, () -> x.step(0, 3, 100, 0));
        check.thrown("30: upper", wrong, () -> x.step(1, 0, 100, 1));
        check.thrown("30: upper below", wrong, () -> x.step(1, 0, -100, 1));
        check.thrown("30: lower 0", wrong, () -> x.step(1, 0, 1, 0));
        check.thrown("30: lower 100", wrong, () -> x.step(1, 0, 1, 100));
        check.thrown("30: lower -1", wrong, () -> x.step(1, 0, 0, -1));
        check.thrown("31: stage", none, () -> x.last(2, 1, 1));
        check.thrown("31: below", none, () -> x.last(-1, 1, 1));
        check.thrown("31: stage first", none, () -> x.last(2, 100, 0));
        check.thrown("31: upper", wrong, () -> x.last(1, 100, 1));
        check.thrown("31: upper below", wrong, () -> x.last(1, -100, 1));
        check.thrown("31: lower 0", wrong, () -> x.last(1, 1, 0));
        check.thrown("31: lower 100", wrong, () -> x.last(1, 1, 100));
        check.thrown("31: least", wrong, () -> x.last(1, Integer.MIN_VALUE, 1));
        weight("nothing has changed", x, "00", 1, 3);
        check.thrown("32: no shrub", none, () -> x.weight(12, true));
        check.thrown("32: no shrub", none, () -> x.weight(-1, false));
    }

    private void lowestTerms() {
        Operadry x = withShrubs();
        weight("at first", x, "0", 0, 1);
        weight("at first", x, "00123456", 0, 1);
        x.last(0, -6, 4);
        weight("-6/4", x, "0", -3, 2);
        weight("without a", x, "00", 0, 1);
        x.step(0, 0, 10, 15);
        weight("2/3 of it", x, "00", -1, 1);
        weight("4/9 of it", x, "000", -2, 3);
        weight("4/9 of it", x, "001", -2, 3);
        x.last(0, 99, 99);
        weight("1", x, "0", 1, 1);
        x.step(0, 0, -98, 99);
        weight("to the 7th", x, "00000000", -86812553324672L, 93206534790699L);
        weight("to the 7th", x, "00123456", -86812553324672L, 93206534790699L);
        x.last(0, 0, 7);
        weight("0 again", x, "00123456", 0, 1);
    }

    /** The method with the weights 1/6, 2/6, 2/6 and 1/6. */
    private static void runge(Operadry x) {
        method(x, 4,
                0, 1, 0, 1, 0, 1, 0, 1,
                1, 2, 0, 1, 0, 1, 0, 1,
                0, 1, 1, 2, 0, 1, 0, 1,
                0, 1, 0, 1, 1, 1, 0, 1,
                1, 6, 1, 3, 1, 3, 1, 6);
    }

    private void weights() {
        Operadry x = withShrubs();
        runge(x);
        weight("runge", x, "0", 1, 1);
        weight("runge", x, "00", 1, 2);
        weight("runge", x, "000", 1, 3);
        weight("runge", x, "001", 1, 6);
        weight("runge", x, "0000", 1, 4);
        weight("runge", x, "0001", 1, 8);
        weight("runge", x, "0011", 1, 12);
        weight("runge", x, "0012", 1, 24);
        weight("runge", x, "00000", 5, 24);
        weight("runge", x, "00123", 0, 1);
        weight("runge", x, "00000000", 11, 64);
    }

    /** A stage to another one and back again. */
    private void stagesInEachOther() {
        Operadry x = withShrubs();
        x.stages(2);
        x.step(0, 1, 2, 3);
        x.step(1, 0, -3, 5);
        x.last(0, 1, 7);
        weight("there", x, "00", 2, 21);
        weight("and back", x, "001", -2, 35);
        weight("and there", x, "0012", -4, 105);
        weight("twice there", x, "000", 4, 63);
        x.last(1, 1, 2);
        weight("both", x, "00", 2 * 10 - 3 * 21, 210);
    }

    private void lowerBeyondLong() {
        Operadry x = withShrubs();
        method(x, 2, 1, 99, 1, 98, 1, 99, 1, 98, 1, 1, 0, 1);
        long upper = 1;
        for (int i = 0; i < 7; i++) {
            upper *= 197;
        }
        check.due("32: upper alone", x.weight(shrub("00123456"), true), upper);
        check.due("32: upper alone", x.weight(shrub("00000000"), true), upper);
        check.thrown("32: lower beyond", ArithmeticException.class,
                () -> x.weight(shrub("00123456"), false));
        check.due("32: upper again", x.weight(shrub("00123456"), true), upper);
        weight("few knots", x, "00", 197, 9702);
        weight("few knots", x, "0012", 197L * 197 * 197, 9702L * 9702 * 9702);
        method(x, 1, 1, 99, 1, 99);
        check.due("32: lower to the 8th", x.weight(shrub("00000000"), false),
                99L * 99 * 99 * 99 * 99 * 99 * 99 * 99);
    }

    private void upperBeyondLong() {
        Operadry x = withShrubs();
        fillAll(x, 64, -32);
        weight("the least long", x, "00123456", Long.MIN_VALUE, 1);
        weight("the least long", x, "00000000", Long.MIN_VALUE, 1);
        fillAll(x, 64, 32);
        check.thrown("32: one too much", ArithmeticException.class,
                () -> x.weight(shrub("00123456"), true));
        check.due("32: lower alone", x.weight(shrub("00123456"), false), 1);
        x.last(3, 31, 1);
        weight("less", x, "00123456", 127L << 56, 1);
        fillAll(x, 99, -99);
        check.thrown("32: far beyond", ArithmeticException.class,
                () -> x.weight(shrub("00000000"), true));
        weight("one knot", x, "0", -396, 1);
    }

    private static void fillAll(Operadry x, int step, int last) {
        x.stages(4);
        for (int from = 0; from < 4; from++) {
            for (int to = 0; to < 4; to++) {
                x.step(from, to, step, 1);
            }
            x.last(from, last, 1);
        }
    }

    private void orders() {
        Operadry x = new Operadry();
        check.due("33: at first", x.order(), 0);
        method(x, 1, 0, 1, 1, 1);
        check.due("33: ahead", x.order(), 1);
        method(x, 1, 1, 1, 1, 1);
        check.due("33: back", x.order(), 1);
        method(x, 1, 1, 2, 1, 1);
        check.due("33: in the middle", x.order(), 2);
        method(x, 1, 1, 2, -1, 1);
        check.due("33: turned", x.order(), 0);
        method(x, 2, 0, 1, 0, 1, 1, 1, 0, 1, 1, 2, 1, 2);
        check.due("33: the mean of both", x.order(), 2);
        method(x, 2, 5, 12, -1, 12, 3, 4, 1, 4, 3, 4, 1, 4);
        check.due("33: at the end", x.order(), 3);
        method(x, 3, 0, 1, 0, 1, 0, 1, 1, 2, 0, 1, 0, 1, -1, 1, 2, 1, 0, 1, 1, 6, 2, 3, 1, 6);
        check.due("33: three stages", x.order(), 3);
        method(x, 3, 0, 1, 0, 1, 0, 1, 5, 24, 1, 3, -1, 24, 1, 6, 2, 3, 1, 6, 1, 6, 2, 3, 1, 6);
        check.due("33: both ends", x.order(), 4);
        runge(x);
        check.due("33: runge", x.order(), 4);
        x.step(3, 2, 98, 99);
        check.due("33: nearly", x.order(), 1);
        x.step(3, 2, 1, 1);
        check.due("33: runge again", x.order(), 4);
        x.stages(4);
        check.due("33: all are 0", x.order(), 0);
    }

    /** Where the weight of one shrub alone is not the one that is due. */
    private void orderOfOneWeight() {
        Operadry x = withShrubs();
        method(x, 2, 0, 1, 0, 1, 2, 3, 0, 1, 1, 4, 3, 4);
        weight("two stages", x, "000", 1, 3);
        weight("two stages", x, "001", 0, 1);
        check.due("33: the way is not", x.order(), 2);
        method(x, 2, 1, 4, 0, 1, 1, 2, 1, 4, 1, 2, 1, 2);
        weight("two stages", x, "001", 3, 16);
        check.due("33: by halves", x.order(), 2);
    }
}
