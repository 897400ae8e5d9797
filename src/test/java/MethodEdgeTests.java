/**
 * Promises 29 to 33, where they end: the last numbers that are taken, and the first that are not.
 */
public final class MethodEdgeTests {
    private static final Class<IllegalArgumentException> ARGUMENT = IllegalArgumentException.class;
    private static final Class<IndexOutOfBoundsException> INDEX = IndexOutOfBoundsException.class;
    private static final Class<ArithmeticException> ARITHMETIC = ArithmeticException.class;

    private static final int STAR = 0;
    private static final int CHERRY = 1;
    private static final int KNOT = 2;
    private static final int TWO = 3;

    private final Check check = new Check();

    private MethodEdgeTests() {
    }

    public static void main(String[] args) {
        MethodEdgeTests tests = new MethodEdgeTests();
        tests.oneToFourStages();
        tests.allFractionsAre0Then();
        tests.stagesOfSteps();
        tests.stagesOfLasts();
        tests.uppersOfSteps();
        tests.lowersOfSteps();
        tests.uppersAndLowersOfLasts();
        tests.eachLower();
        tests.noneAndAllFractions();
        tests.shrubs();
        tests.greatestUpper();
        tests.leastUpper();
        tests.greatestLower();
        tests.lowestTerms();
        tests.lowerOneIsAbove0();
        tests.greatCommonLowers();
        tests.stagesThatTakeOneAnotherAway();
        tests.orders0To4();
        tests.ordersThatFailByOneShrub();
        tests.ordersThatFailByOneOfFourKnots();
        tests.check.end();
    }

    private void refuse(String what, Class<? extends RuntimeException> kind, Check.Call call) {
        check.thrown(what, kind, call);
    }

    private static Operadry withShrubs() {
        Operadry x = new Operadry();
        for (String row : new String[] {"00000000", "000", "0", "00"}) {
            Check.shrub(x, row);
        }
        return x;
    }

    private void weight(String what, Operadry x, int shrub, long upper, long lower) {
        check.due("32: upper, " + what, x.weight(shrub, true), upper);
        check.due("32: lower, " + what, x.weight(shrub, false), lower);
    }

    private void oneToFourStages() {
        Operadry x = new Operadry();
        refuse("29: 0", ARGUMENT, () -> x.stages(0));
        check.due("29: one, as at first", x.stages(1), 1);
        check.due("29: two", x.stages(2), 1);
        check.due("29: three", x.stages(3), 2);
        check.due("29: four", x.stages(4), 3);
        refuse("29: 5", ARGUMENT, () -> x.stages(5));
        check.due("29: still four", x.stages(1), 4);
        refuse("29: -1", ARGUMENT, () -> x.stages(-1));
        check.due("29: still one", x.stages(1), 1);
    }

    private void allFractionsAre0Then() {
        Operadry x = withShrubs();
        for (int stages = 1; stages <= 4; stages++) {
            x.stages(stages);
            check.due("30: the only one", x.step(stages - 1, 0, 1, 1), 1);
            check.due("31: the only one", x.last(stages - 1, 1, 1), 1);
            check.due("29: as many", x.stages(stages), stages);
            check.due("30: none", x.step(0, 0, 0, 1), 0);
            check.due("31: none", x.last(0, 0, 1), 0);
            weight("all are 0", x, KNOT, 0, 1);
        }
        x.step(3, 3, 1, 1);
        x.last(3, 1, 1);
        x.stages(1);
        x.stages(4);
        check.due("30: what was beyond is 0 too", x.step(0, 0, 0, 1), 0);
        check.due("31: what was beyond is 0 too", x.last(0, 0, 1), 0);
    }

    private void stagesOfSteps() {
        for (int stages = 1; stages <= 4; stages++) {
            int behind = stages;
            Operadry x = new Operadry();
            x.stages(stages);
            refuse("30: from -1", INDEX, () -> x.step(-1, 0, 1, 1));
            refuse("30: to -1", INDEX, () -> x.step(0, -1, 1, 1));
            check.due("30: from the last", x.step(stages - 1, 0, 1, 1), 1);
            check.due("30: to the last", x.step(0, stages - 1, 1, 1), stages == 1 ? 1 : 2);
            refuse("30: from behind", INDEX, () -> x.step(behind, 0, 1, 1));
            refuse("30: to behind", INDEX, () -> x.step(0, behind, 1, 1));
            refuse("30: stage first", INDEX, () -> x.step(behind, 0, 100, 0));
        }
    }

    private void stagesOfLasts() {
        for (int stages = 1; stages <= 4; stages++) {
            int behind = stages;
            Operadry x = new Operadry();
            x.stages(stages);
            refuse("31: -1", INDEX, () -> x.last(-1, 1, 1));
            check.due("31: first", x.last(0, 1, 1), 1);
            check.due("31: last", x.last(stages - 1, 1, 1), stages == 1 ? 1 : 2);
            refuse("31: behind", INDEX, () -> x.last(behind, 1, 1));
            refuse("31: stage first", INDEX, () -> x.last(behind, 100, 0));
        }
    }

    private void uppersOfSteps() {
        Operadry x = withShrubs();
        x.last(0, 1, 1);
        refuse("30: 100", ARGUMENT, () -> x.step(0, 0, 100, 1));
        check.due("30: 99", x.step(0, 0, 99, 1), 1);
        weight("99", x, TWO, 99, 1);
        refuse("30: -100", ARGUMENT, () -> x.step(0, 0, -100, 1));
        weight("99 still", x, TWO, 99, 1);
        check.due("30: -99", x.step(0, 0, -99, 1), 1);
        weight("-99", x, TWO, -99, 1);
        check.due("30: 0", x.step(0, 0, 0, 1), 0);
        weight("0", x, TWO, 0, 1);
    }

    private void lowersOfSteps() {
        Operadry x = withShrubs();
        x.last(0, 1, 1);
        refuse("30: 0", ARGUMENT, () -> x.step(0, 0, 1, 0));
        refuse("30: 0 below 0", ARGUMENT, () -> x.step(0, 0, 0, 0));
        check.due("30: 1", x.step(0, 0, 1, 1), 1);
        weight("1", x, TWO, 1, 1);
        refuse("30: 100", ARGUMENT, () -> x.step(0, 0, 1, 100));
        refuse("30: 0 below 100", ARGUMENT, () -> x.step(0, 0, 0, 100));
        weight("1 still", x, TWO, 1, 1);
        check.due("30: 99", x.step(0, 0, 1, 99), 1);
        weight("1/99", x, TWO, 1, 99);
        check.due("30: 0/99", x.step(0, 0, 0, 99), 0);
        weight("0", x, TWO, 0, 1);
    }

    private void uppersAndLowersOfLasts() {
        Operadry x = withShrubs();
        refuse("31: upper 100", ARGUMENT, () -> x.last(0, 100, 1));
        check.due("31: upper 99", x.last(0, 99, 1), 1);
        refuse("31: upper -100", ARGUMENT, () -> x.last(0, -100, 1));
        weight("99", x, KNOT, 99, 1);
        check.due("31: upper -99", x.last(0, -99, 1), 1);
        weight("-99", x, KNOT, -99, 1);
        refuse("31: lower 0", ARGUMENT, () -> x.last(0, 1, 0));
        refuse("31: 0 below 0", ARGUMENT, () -> x.last(0, 0, 0));
        refuse("31: lower 100", ARGUMENT, () -> x.last(0, 1, 100));
        weight("-99 still", x, KNOT, -99, 1);
        check.due("31: lower 99", x.last(0, -1, 99), 1);
        weight("-1/99", x, KNOT, -1, 99);
        check.due("31: 0/99", x.last(0, 0, 99), 0);
        weight("0", x, KNOT, 0, 1);
    }

    private void eachLower() {
        for (int lower = 1; lower <= 99; lower++) {
            Operadry x = withShrubs();
            x.step(0, 0, 1, lower);
            x.last(0, lower, 1);
            weight("in lowest terms, " + lower, x, TWO, 1, 1);
            weight("in lowest terms, " + lower, x, CHERRY, 1, lower);
            x.step(0, 0, lower, 1);
            x.last(0, 1, lower);
            weight("turned, " + lower, x, KNOT, 1, lower);
            weight("turned, " + lower, x, CHERRY, lower, 1);
        }
    }

    private void noneAndAllFractions() {
        Operadry x = new Operadry();
        x.stages(4);
        for (int number = 0; number < 16; number++) {
            check.due("30: one more", x.step(number / 4, number % 4, 1, 99), number + 1);
        }
        for (int stage = 0; stage < 4; stage++) {
            check.due("31: one more", x.last(stage, -1, 99), stage + 1);
        }
        check.due("30: all, one told again", x.step(3, 3, -1, 98), 16);
        check.due("31: all, one told again", x.last(3, 1, 98), 4);
        for (int number = 15; number >= 0; number--) {
            check.due("30: one less", x.step(number / 4, number % 4, 0, 1), number);
        }
        for (int stage = 3; stage >= 0; stage--) {
            check.due("31: one less", x.last(stage, 0, 1), stage);
        }
    }

    private void shrubs() {
        Operadry x = withShrubs();
        refuse("32: -1", INDEX, () -> x.weight(-1, true));
        check.due("32: first", x.weight(0, false), 1);
        check.due("32: last", x.weight(3, false), 1);
        refuse("32: behind", INDEX, () -> x.weight(4, true));
        refuse("32: behind", INDEX, () -> x.weight(4, false));
    }

    /**
     * A method in which a star of 8 knots has the weight b times 2 to the 57th, for twice the
     * fraction b, and in whose third stage each shrub has the weight 1.
     */
    private static Operadry ofPowers(int last, int more) {
        Operadry x = withShrubs();
        x.stages(4);
        for (int to = 0; to < 4; to++) {
            x.step(0, to, 64, 1);
            x.step(1, to, 64, 1);
        }
        x.step(2, 2, 1, 1);
        x.last(0, last, 1);
        x.last(1, last, 1);
        x.last(2, more, 1);
        return x;
    }

    private void greatestUpper() {
        weight("the greatest long", ofPowers(64, -1), STAR, Long.MAX_VALUE, 1);
        weight("one below", ofPowers(64, -2), STAR, Long.MAX_VALUE - 1, 1);
        Operadry x = ofPowers(64, 0);
        refuse("32: one above the greatest long", ARITHMETIC, () -> x.weight(STAR, true));
        check.due("32: lower, of one above", x.weight(STAR, false), 1);
        Operadry y = ofPowers(64, 1);
        refuse("32: two above the greatest long", ARITHMETIC, () -> y.weight(STAR, true));
        Operadry z = ofPowers(99, 99);
        refuse("32: far above the greatest long", ARITHMETIC, () -> z.weight(STAR, true));
        weight("a knot", z, KNOT, 297, 1);
    }

    private void leastUpper() {
        weight("the least long", ofPowers(-64, 0), STAR, Long.MIN_VALUE, 1);
        weight("one above", ofPowers(-64, 1), STAR, Long.MIN_VALUE + 1, 1);
        Operadry x = ofPowers(-64, -1);
        refuse("32: one below the least long", ARITHMETIC, () -> x.weight(STAR, true));
        check.due("32: lower, of one below", x.weight(STAR, false), 1);
        Operadry y = ofPowers(-64, -8);
        y.step(2, 2, 16, 1);
        refuse("32: 2 to the 31st below the least long", ARITHMETIC, () -> y.weight(STAR, true));
        y.last(2, 8, 1);
        weight("2 to the 31st above", y, STAR, Long.MIN_VALUE + (1L << 31), 1);
        Operadry z = ofPowers(-99, -99);
        refuse("32: far below the least long", ARITHMETIC, () -> z.weight(STAR, true));
    }

    /** All rows of fractions a are alike: a cherry has the sum of b times that of a, twice. */
    private static Operadry ofLowers(int[] steps, int[] lasts) {
        Operadry x = withShrubs();
        x.stages(4);
        for (int from = 0; from < 4; from++) {
            for (int to = 0; to < 4; to++) {
                x.step(from, to, 1, steps[to]);
            }
            x.last(from, 1, lasts[from]);
        }
        return x;
    }

    /** No lower one that can be is nearer to 2 to the 63rd than some billions. */
    private void greatestLower() {
        Operadry below = ofLowers(new int[] {11, 62, 67, 83}, new int[] {9, 16, 61, 73});
        weight("just below the end", below, CHERRY, 33742161971727589L, 9223372033932817728L);
        Operadry above = ofLowers(new int[] {7, 46, 71, 81}, new int[] {13, 31, 71, 94});
        refuse("32: lower, just above the end", ARITHMETIC, () -> above.weight(CHERRY, false));
        check.due("32: upper, of just above the end", above.weight(CHERRY, true),
                45068194081181359L);
        refuse("32: lower, far above the end", ARITHMETIC, () -> above.weight(STAR, false));
        refuse("32: upper, far above the end", ARITHMETIC, () -> above.weight(STAR, true));
    }

    /** Beyond a long, but not in lowest terms. */
    private void lowestTerms() {
        Operadry x = withShrubs();
        x.stages(4);
        for (int from = 0; from < 4; from++) {
            for (int to = 0; to < 4; to++) {
                x.step(from, to, 99, 99);
            }
            x.last(from, -99, 99);
        }
        weight("all are 1", x, STAR, -65536, 1);
        x.last(0, 1, 3);
        x.last(1, 1, 6);
        x.last(2, 1, 6);
        x.last(3, 1, 3);
        weight("their sum is 1", x, KNOT, 1, 1);
        x.last(3, -2, 3);
        weight("their sum is 0", x, STAR, 0, 1);
        weight("their sum is 0", x, KNOT, 0, 1);
    }

    private void lowerOneIsAbove0() {
        Operadry x = withShrubs();
        x.last(0, -98, 98);
        weight("-1", x, KNOT, -1, 1);
        x.last(0, -2, 4);
        weight("-1/2", x, KNOT, -1, 2);
        x.step(0, 0, -3, 9);
        weight("1/6", x, TWO, 1, 6);
        weight("-1/18", x, CHERRY, -1, 18);
        weight("to the 7th", x, STAR, 1, 2 * 2187);
    }

    /** Stage 0 takes nothing from the others, whose lower numbers have no divisor in common. */
    private static Operadry withUnlikeLowers() {
        Operadry x = withShrubs();
        x.stages(4);
        int[] lowers = {99, 98, 97, 95, 89, 83, 79, 73, 71, 67, 61, 59};
        for (int place = 0; place < lowers.length; place++) {
            x.step(1 + place / 4, place % 4, place % 2 == 0 ? 53 : -47, lowers[place]);
        }
        x.step(0, 0, 1, 2);
        x.last(0, 3, 5);
        return x;
    }

    private void greatCommonLowers() {
        Operadry x = withUnlikeLowers();
        weight("stage 0 alone", x, KNOT, 3, 5);
        weight("stage 0 alone", x, TWO, 3, 10);
        weight("stage 0 alone", x, CHERRY, 3, 20);
        weight("stage 0 alone", x, STAR, 3, 640);
        x.step(0, 0, -1, 3);
        weight("turned", x, STAR, -1, 3645);
        x.last(0, 1, 1);
        x.step(0, 0, 1, 2);
        x.last(1, 1, 43);
        refuse("32: lower, with stage 1", ARITHMETIC, () -> x.weight(STAR, false));
        refuse("32: upper, with stage 1", ARITHMETIC, () -> x.weight(STAR, true));
        check.due("33: with stage 1", x.order(), 0);
        x.last(1, 0, 43);
        check.due("33: stage 0 alone", x.order(), 2);
    }

    /** Two stages take the same, and have the same b but for its sign. */
    private void stagesThatTakeOneAnotherAway() {
        Operadry x = withUnlikeLowers();
        int[] lowers = {99, 98, 97, 95};
        for (int place = 0; place < lowers.length; place++) {
            x.step(2, place, place % 2 == 0 ? 53 : -47, lowers[place]);
        }
        x.last(0, 0, 1);
        x.last(1, 31, 43);
        x.last(2, -31, 43);
        weight("nothing is left", x, KNOT, 0, 1);
        weight("nothing is left", x, TWO, 0, 1);
        weight("nothing is left", x, STAR, 0, 1);
        x.last(0, -1, 1);
        weight("stage 0 is left", x, STAR, -1, 128);
        weight("stage 0 is left", x, TWO, -1, 2);
        x.last(3, 1, 1);
        x.step(3, 0, 1, 2);
        x.step(3, 1, 0, 1);
        x.step(3, 2, 0, 1);
        x.step(3, 3, 1, 97);
        weight("nearly nothing is left", x, TWO, 1, 97);
        weight("nearly nothing is left", x, CHERRY, 98, 97 * 97);
        x.last(0, 0, 1);
        x.last(3, -1, 1);
        x.step(3, 0, 0, 1);
        weight("a little that is behind them", x, TWO, -1, 97);
        weight("a little that is behind them", x, STAR, -1, 80798284478113L);
    }

    /** Tells a method of numbers, upper and lower: those of a for each stage, then those of b. */
    private static Operadry method(int stages, int... numbers) {
        Operadry x = withShrubs();
        x.stages(stages);
        for (int i = 0; i < numbers.length; i += 2) {
            int place = i / 2;
            if (place < stages * stages) {
                x.step(place / stages, place % stages, numbers[i], numbers[i + 1]);
            } else {
                x.last(place - stages * stages, numbers[i], numbers[i + 1]);
            }
        }
        return x;
    }

    private void orders0To4() {
        check.due("33: at first", new Operadry().order(), 0);
        check.due("33: 0", method(1, 1, 2, 98, 99).order(), 0);
        check.due("33: 1", method(1, 0, 1, 1, 1).order(), 1);
        check.due("33: 2", method(1, 1, 2, 1, 1).order(), 2);
        check.due("33: 3", method(2, 5, 12, -1, 12, 3, 4, 1, 4, 3, 4, 1, 4).order(), 3);
        check.due("33: 4", method(3, 1, 6, -1, 3, 1, 6, 1, 6, 5, 12, -1, 12, 1, 6, 2, 3, 1, 6, 1, 6,
                2, 3, 1, 6).order(), 4);
        check.due("33: 4 with four stages", method(4, 0, 1, 0, 1, 0, 1, 0, 1, 1, 3, 0, 1, 0, 1,
                0, 1, -1, 3, 1, 1, 0, 1, 0, 1, 1, 1, -1, 1, 1, 1, 0, 1, 1, 8, 3, 8, 3, 8, 1, 8)
                .order(), 4);
    }

    /** Each of the weights up to the order is due: one alone that is not lowers it. */
    private void ordersThatFailByOneShrub() {
        failBy(2, "000", method(2, 1, 3, 0, 1, 1, 2, 0, 1, 0, 1, 1, 1));
        failBy(2, "001", method(2, 0, 1, 0, 1, 2, 3, 0, 1, 1, 4, 3, 4));
        Operadry x = method(4, 0, 1, 0, 1, 0, 1, 0, 1, 1, 2, 0, 1, 0, 1, 0, 1, 0, 1, 1, 2, 0, 1,
                0, 1, 0, 1, 0, 1, 1, 1, 0, 1, 1, 6, 1, 3, 1, 3, 1, 6);
        check.due("33: the four weights of old", x.order(), 4);
        x.last(3, 1, 7);
        check.due("33: one b is less", x.order(), 0);
        x.last(3, 1, 6);
        x.step(3, 0, 1, 99);
        check.due("33: one a is more", x.order(), 1);
        x.step(3, 0, 0, 1);
        check.due("33: as before", x.order(), 4);
    }

    /** With three further stages, of which each has fractions a for those ahead of it alone. */
    private static Operadry ahead(int... numbers) {
        Operadry x = withShrubs();
        x.stages(4);
        int place = 0;
        for (int from = 1; from <= 4; from++) {
            for (int to = 0; to < from; to++) {
                if (from < 4) {
                    x.step(from, to, numbers[place], numbers[place + 1]);
                } else {
                    x.last(to, numbers[place], numbers[place + 1]);
                }
                place += 2;
            }
        }
        return x;
    }

    /** Of the shrubs with four knots the weight of one alone is not due. */
    private void ordersThatFailByOneOfFourKnots() {
        failBy(3, "0000", ahead(-1, 2, 7, 4, -3, 4, 1, 6, 1, 9, 2, 9, 1, 3, -1, 18, 2, 9, 1, 2));
        failBy(3, "0001", ahead(-1, 2, 9, 2, -5, 2, -1, 1, -1, 15, 1, 15, 13, 6, -26, 15, 1, 15,
                1, 2));
        failBy(3, "0011", ahead(-1, 1, 3, 2, -1, 2, 3, 8, 0, 1, 1, 8, 1, 6, 0, 1, 1, 6, 2, 3));
        failBy(3, "0012", ahead(-1, 2, 2, 1, -1, 1, 1, 4, 1, 12, 1, 6, 1, 6, 0, 1, 1, 6, 2, 3));
    }

    /** Of the shrubs with one knot more than the order, and with fewer, one alone fails. */
    private void failBy(int order, String row, Operadry x) {
        check.due("33: " + row + " alone fails", x.order(), order);
        String[] all = {"0", "00", "000", "001", "0000", "0001", "0011", "0012"};
        for (String other : all) {
            int shrub = Check.shrub(x, other);
            if (other.length() <= order + 1) {
                boolean isDue = x.weight(shrub, true) == 1
                        && x.weight(shrub, false) == x.density(shrub);
                check.due("32: " + other + ", where " + row + " fails", isDue,
                        !other.equals(row));
            }
        }
    }
}
