import java.math.BigInteger;
import java.util.NoSuchElementException;

/**
 * Promises 10 to 17, 20, 41 and 43, where they end: the last that is taken or kept, and the first
 * that is not.
 */
public final class SumEdgeTests {
    private static final Class<IllegalArgumentException> ARGUMENT = IllegalArgumentException.class;
    private static final Class<IndexOutOfBoundsException> INDEX = IndexOutOfBoundsException.class;
    private static final Class<NoSuchElementException> ELEMENT = NoSuchElementException.class;
    private static final Class<UnsupportedOperationException> UNSUPPORTED =
            UnsupportedOperationException.class;
    private static final Class<ArithmeticException> ARITHMETIC = ArithmeticException.class;

    private final Check check = new Check();

    private SumEdgeTests() {
    }

    public static void main(String[] args) {
        SumEdgeTests tests = new SumEdgeTests();
        tests.tenSums();
        tests.withoutTerms();
        tests.amountsFromMinus99To99();
        tests.noAmountIs0();
        tests.noAmountIs0AtAnyPlace();
        tests.asManyInputs();
        tests.leastLong();
        tests.greatestLong();
        tests.firstAndLastTerm();
        tests.firstAndLastSignOfTerm();
        tests.shortestAndLongestTerm();
        tests.twoOperations();
        tests.lowerByOneStep();
        tests.eachTreeOfTheSumIsLower();
        tests.asManyInputsAsTheLeftSide();
        tests.noTwoOfOneLeftSide();
        tests.eightRules();
        tests.widestLeftSide();
        tests.sixteenOperationsOnOneWay();
        tests.theSumAsItIsThen();
        tests.reducingNothing();
        tests.reducingToTheLeastLong();
        tests.reducingTheLeastLong();
        tests.reducingToTheGreatestLong();
        tests.reducingByGreatAmounts();
        tests.reducingByProducts();
        tests.greatestTreeFirst();
        tests.greatestTreeFirstBeyondLong();
        tests.firstPlaceOfTheTaken();
        tests.normalTrees();
        tests.confluentWithoutPlaces();
        tests.confluentAtTheEndsOfLong();
        tests.checksumOfNothing();
        tests.checksumAroundTheEnds();
        tests.means();
        tests.check.end();
    }

    private void refuse(String what, Class<? extends RuntimeException> kind, Check.Call call) {
        check.thrown(what, kind, call);
    }

    private void tenSums() {
        Operadry x = new Operadry();
        for (int sum = 0; sum < 10; sum++) {
            int next = sum;
            refuse("12: sum " + sum + " ahead", INDEX, () -> x.terms(next));
            check.due("10: sum " + sum, x.sum(), sum);
            check.due("12: sum " + sum, x.terms(sum), 0);
        }
        refuse("10: an eleventh", IllegalStateException.class, x::sum);
        refuse("12: no eleventh", INDEX, () -> x.terms(10));
        refuse("12: below the first", INDEX, () -> x.terms(-1));
    }

    private void withoutTerms() {
        Operadry x = Made.with(2);
        int sum = x.sum();
        int pair = Check.tree(x, "099");
        check.due("12: none", x.terms(sum), 0);
        refuse("13: none", ELEMENT, () -> x.amount(sum, 0));
        refuse("14: none", ELEMENT, () -> x.termSign(sum, 0, 0));
        check.due("16: none", x.reduce(sum), 0);
        check.due("11: of a tree that is no term", x.add(sum, pair, 0), 0);
        check.due("11: an amount of 0 is none", x.terms(sum), 0);
        check.due("11: other inputs then", x.add(sum, Check.tree(x, "9"), 0), 0);
        check.due("11: other inputs then", x.add(sum, Check.tree(x, "00999"), 1), 1);
        check.due("12: one", x.terms(sum), 1);
    }

    private void amountsFromMinus99To99() {
        Operadry x = Made.with(2);
        int sum = x.sum();
        int pair = Check.tree(x, "099");
        refuse("11: 100", ARGUMENT, () -> x.add(sum, pair, 100));
        check.due("11: 99", x.add(sum, pair, 99), 99);
        check.due("11: 99 more", x.add(sum, pair, 99), 198);
        refuse("11: -100", ARGUMENT, () -> x.add(sum, pair, -100));
        check.due("11: -99", x.add(sum, pair, -99), 99);
        check.due("11: -98", x.add(sum, pair, -98), 1);
        check.due("11: 0", x.add(sum, pair, 0), 1);
        check.due("11: -99 of 1", x.add(sum, pair, -99), -98);
        int other = x.sum();
        check.due("11: -99 of none", x.add(other, pair, -99), -99);
    }

    private void noAmountIs0() {
        Operadry x = Made.with(2);
        int left = Check.tree(x, "00999");
        int sum = Check.sum(x, "1 00999", "1 09099");
        check.due("11: to 0", x.add(sum, left, -1), 0);
        check.due("12: one term less", x.terms(sum), 1);
        check.due("14: the other tree", x.termSign(sum, 0, 1), 9);
        refuse("13: the second one is none", ELEMENT, () -> x.amount(sum, 1));
        check.due("11: from 0", x.add(sum, left, -1), -1);
        check.due("12: a term again", x.terms(sum), 2);
        check.due("13: the greatest", x.amount(sum, 0), -1);
    }

    /** Each of the terms goes, and comes again, whatever stands ahead of it and behind it. */
    private void noAmountIs0AtAnyPlace() {
        Operadry x = Made.with(2, 2, 2);
        String[] falling = {"20999", "11999", "10999", "01999", "00999", "19199", "19099", "09099"};
        int sum = x.sum();
        for (int term = 0; term < 8; term++) {
            x.add(sum, Check.tree(x, falling[term]), term + 1);
        }
        long all = x.checksum();
        for (int term = 0; term < 8; term++) {
            check.due("11: to 0, term " + term, x.add(sum, term, -term - 1), 0);
            check.due("12: without term " + term, x.terms(sum), 7);
            for (int other = 0; other < 7; other++) {
                check.due("13: without term " + term, x.amount(sum, other),
                        other < term ? other + 1 : other + 2);
            }
            check.due("11: again, term " + term, x.add(sum, term, term + 1), term + 1);
            check.due("41: with all terms", x.checksum(), all);
        }
    }

    private void asManyInputs() {
        Operadry x = Made.with(2, 3);
        int sum = Check.sum(x, "1 09099");
        int pair = Check.tree(x, "099");
        int four = Check.tree(x, "0909099");
        int wide = Check.tree(x, "1999");
        refuse("11: one input less", UNSUPPORTED, () -> x.add(sum, pair, 1));
        refuse("11: one input more", UNSUPPORTED, () -> x.add(sum, four, 1));
        refuse("11: one input less, be the amount 0", UNSUPPORTED, () -> x.add(sum, pair, 0));
        refuse("11: one input more, be the amount 0", UNSUPPORTED, () -> x.add(sum, four, 0));
        check.due("11: as many, of one operation", x.add(sum, wide, 2), 2);
        check.due("11: the first one goes", x.add(sum, Check.tree(x, "09099"), -1), 0);
        refuse("11: one term is left", UNSUPPORTED, () -> x.add(sum, pair, 1));
        check.due("11: the last one goes", x.add(sum, wide, -2), 0);
        check.due("11: any inputs then", x.add(sum, pair, 1), 1);
        refuse("11: and no others", UNSUPPORTED, () -> x.add(sum, wide, 1));
    }

    private void leastLong() {
        Operadry x = Made.ends();
        check.due("16: the least long", x.amount(Made.LEAST, 0), Long.MIN_VALUE);
        check.due("11: it stays", x.add(Made.LEAST, Made.LOW, 0), Long.MIN_VALUE);
        refuse("11: one below", ARITHMETIC, () -> x.add(Made.LEAST, Made.LOW, -1));
        refuse("11: 99 below", ARITHMETIC, () -> x.add(Made.LEAST, Made.LOW, -99));
        check.due("11: one above", x.add(Made.LEAST, Made.LOW, 1), Long.MIN_VALUE + 1);
        refuse("11: two less", ARITHMETIC, () -> x.add(Made.LEAST, Made.LOW, -2));
        check.due("11: one less", x.add(Made.LEAST, Made.LOW, -1), Long.MIN_VALUE);
        check.due("11: 99 above", x.add(Made.LEAST, Made.LOW, 99), Long.MIN_VALUE + 99);
        check.due("11: 99 less", x.add(Made.LEAST, Made.LOW, -99), Long.MIN_VALUE);
        check.due("13: the least long", x.amount(Made.LEAST, 0), Long.MIN_VALUE);
    }

    private void greatestLong() {
        Operadry x = Made.ends();
        check.due("16: the greatest long", x.amount(Made.GREATEST, 0), Long.MAX_VALUE);
        check.due("11: it stays", x.add(Made.GREATEST, Made.LOW, 0), Long.MAX_VALUE);
        refuse("11: one above", ARITHMETIC, () -> x.add(Made.GREATEST, Made.LOW, 1));
        refuse("11: 99 above", ARITHMETIC, () -> x.add(Made.GREATEST, Made.LOW, 99));
        check.due("11: one below", x.add(Made.GREATEST, Made.LOW, -1), Long.MAX_VALUE - 1);
        refuse("11: two more", ARITHMETIC, () -> x.add(Made.GREATEST, Made.LOW, 2));
        check.due("11: one more", x.add(Made.GREATEST, Made.LOW, 1), Long.MAX_VALUE);
        check.due("11: 99 below", x.add(Made.GREATEST, Made.LOW, -99), Long.MAX_VALUE - 99);
        check.due("11: 99 more", x.add(Made.GREATEST, Made.LOW, 99), Long.MAX_VALUE);
        check.due("13: the greatest long", x.amount(Made.GREATEST, 0), Long.MAX_VALUE);
    }

    private void firstAndLastTerm() {
        Operadry x = Made.with(2, 2);
        int sum = Check.sum(x, "1 09099", "2 09199", "3 19099", "4 19199", "5 11999");
        refuse("13: -1", ELEMENT, () -> x.amount(sum, -1));
        check.due("13: the greatest", x.amount(sum, 0), 5);
        check.due("13: the lowest", x.amount(sum, 4), 1);
        refuse("13: behind", ELEMENT, () -> x.amount(sum, 5));
        refuse("14: -1", ELEMENT, () -> x.termSign(sum, -1, 0));
        check.due("14: the greatest", x.termSign(sum, 0, 1), 1);
        check.due("14: the lowest", x.termSign(sum, 4, 0), 0);
        refuse("14: behind", ELEMENT, () -> x.termSign(sum, 5, 0));
    }

    private void firstAndLastSignOfTerm() {
        Operadry x = Made.with(2, 2);
        int sum = Check.sum(x, "1 19099");
        refuse("14: before the row", ELEMENT, () -> x.termSign(sum, 0, -1));
        check.due("14: first sign", x.termSign(sum, 0, 0), 1);
        check.due("14: third sign", x.termSign(sum, 0, 2), 0);
        check.due("14: last sign", x.termSign(sum, 0, 4), 9);
        refuse("14: behind the row", ELEMENT, () -> x.termSign(sum, 0, 5));
    }

    private void shortestAndLongestTerm() {
        Operadry x = Made.with(2, 3);
        int shortest = Check.sum(x, "1 9");
        check.due("14: the shortest row", x.termSign(shortest, 0, 0), 9);
        refuse("14: behind the shortest row", ELEMENT, () -> x.termSign(shortest, 0, 1));
        int longest = Check.sum(x, "-1 " + "1".repeat(8) + "9".repeat(17));
        check.due("14: the longest row", x.termSign(longest, 0, 7), 1);
        check.due("14: the longest row", x.termSign(longest, 0, 24), 9);
        refuse("14: behind the longest row", ELEMENT, () -> x.termSign(longest, 0, 25));
        x.rule(Check.tree(x, "1199999"), Check.sum(x, "1 009099099"));
        check.due("16: each wide operation comes to two", x.reduce(longest), 1);
        check.due("14: sixteen operations", x.termSign(longest, 0, 0), 0);
        check.due("14: sixteen operations", x.termSign(longest, 0, 32), 9);
        refuse("14: behind sixteen operations", ELEMENT, () -> x.termSign(longest, 0, 33));
        check.due("13: its amount", x.amount(longest, 0), -1);
    }

    private void twoOperations() {
        Operadry x = Made.with(2, 2);
        int none = x.sum();
        int input = Check.tree(x, "9");
        int one = Check.tree(x, "099");
        int three = Check.tree(x, "0909099");
        refuse("15: no operation", UNSUPPORTED, () -> x.rule(input, none));
        refuse("15: one operation", UNSUPPORTED, () -> x.rule(one, none));
        refuse("15: three operations", UNSUPPORTED, () -> x.rule(three, none));
        check.due("15: two operations, to the right", x.rule(Check.tree(x, "09199"), none), 1);
        check.due("15: two operations, to the left", x.rule(Check.tree(x, "01999"), none), 2);
    }

    private void lowerByOneStep() {
        Operadry x = Made.with(2, 2);
        int left = Check.tree(x, "09199");
        int greater = Check.sum(x, "1 19099");
        int like = Check.sum(x, "1 09199");
        int lower = Check.sum(x, "1 09099");
        refuse("15: the next greater tree", UNSUPPORTED, () -> x.rule(left, greater));
        refuse("15: the tree itself", UNSUPPORTED, () -> x.rule(left, like));
        check.due("15: the next lower tree", x.rule(left, lower), 1);
    }

    private void eachTreeOfTheSumIsLower() {
        Operadry x = Made.with(2, 2);
        int left = Check.tree(x, "19199");
        int sum = Check.sum(x, "1 09099", "1 09199", "-1 00999");
        refuse("15: the first term is greater", UNSUPPORTED, () -> x.rule(left, sum));
        x.add(sum, Check.tree(x, "00999"), 1);
        x.add(sum, left, 5);
        refuse("15: the first term is the tree itself", UNSUPPORTED, () -> x.rule(left, sum));
        x.add(sum, left, -5);
        check.due("15: then all are lower", x.rule(left, sum), 1);
    }

    private void asManyInputsAsTheLeftSide() {
        Operadry x = Made.with(2, 3);
        int left = Check.tree(x, "01" + "9".repeat(4));
        int fewer = Check.sum(x, "1 09099");
        int more = Check.sum(x, "1 " + "0".repeat(4) + "9".repeat(5));
        int same = Check.sum(x, "1 0909099");
        refuse("15: one input less, and lower", UNSUPPORTED, () -> x.rule(left, fewer));
        refuse("15: one input more", UNSUPPORTED, () -> x.rule(left, more));
        check.due("15: as many inputs, and three operations", x.rule(left, same), 1);
    }

    private void noTwoOfOneLeftSide() {
        Operadry x = Made.with(3, 2);
        int none = x.sum();
        int row = 0;
        for (String left : new String[] {"019999", "091999", "099199", "109999"}) {
            int tree = Check.tree(x, left);
            check.due("15: " + left, x.rule(tree, none), ++row);
            refuse("15: once more " + left, UNSUPPORTED, () -> x.rule(tree, none));
        }
        check.due("15: at another input", x.rule(Check.tree(x, "190999"), none), 5);
    }

    private void eightRules() {
        Operadry x = Made.full("9");
        refuse("15: a ninth", IllegalStateException.class, () -> x.rule(Made.NOT_RULED, 0));
        Operadry y = Made.with(2, 2, 2, 2);
        Made.keepFortyTrees(y);
        int none = y.sum();
        for (int rule = 0; rule < 7; rule++) {
            y.rule(Made.FIRST_RULED + rule, none);
        }
        check.due("15: an eighth", y.rule(Made.NOT_RULED, none), 8);
        refuse("15: a ninth", IllegalStateException.class,
                () -> y.rule(Made.FIRST_RULED + 7, none));
        check.due("17: the eighth is a left side", y.isNormal(Made.NOT_RULED), false);
        check.due("17: the ninth is none", y.isNormal(Made.FIRST_RULED + 7), true);
        check.due("18: eight left sides", y.normals(3), 32 - 8);
    }

    /** Two wide operations, at each of the inputs, and five pieces that keep their order. */
    private void widestLeftSide() {
        String[] pieces = {"9", "099", "9", "9", "09099"};
        String all = String.join("", pieces);
        String due = "0" + pieces[0] + "0" + pieces[1] + "0" + pieces[2] + "0" + pieces[3]
                + pieces[4];
        for (int input = 0; input < 3; input++) {
            Operadry x = Made.with(2, 3);
            String left = "1" + "9".repeat(input) + "1" + "9".repeat(5 - input);
            int told = x.rule(Check.tree(x, left), Check.sum(x, "1 090909099"));
            check.due("15: at input " + input, told, 1);
            String ahead = "";
            for (int piece = 0; piece < input; piece++) {
                ahead += pieces[piece];
            }
            int sum = Check.sum(x, "1 1" + ahead + "1" + all.substring(ahead.length()));
            x.reduce(sum);
            check.dueText("16: at input " + input, Check.terms(x, sum), "[1 " + due + "]");
        }
    }

    /** Eight wide operations come to sixteen narrow ones, and then the last of each four changes. */
    private void sixteenOperationsOnOneWay() {
        Operadry x = Made.with(2, 3, 2);
        x.rule(Check.tree(x, "1991999"), Check.sum(x, "1 090909299"));
        int sum = Check.sum(x, "3 " + "199".repeat(8) + "9");
        x.reduce(sum);
        check.dueText("16: on one way", Check.terms(x, sum), "[3 " + "09090929".repeat(4) + "9]");
        x.rule(Check.tree(x, "09299"), Check.sum(x, "5 09099"));
        x.reduce(sum);
        check.dueText("16: up to its end", Check.terms(x, sum),
                "[" + 3 * 5 * 5 * 5 * 5 + " " + "09".repeat(16) + "9]");
        x.rule(Check.tree(x, "09099"), x.sum());
        check.due("16: and away", x.reduce(sum), 0);
    }

    private void theSumAsItIsThen() {
        Operadry x = Made.with(2);
        int right = Check.sum(x, "1 09099");
        int left = Check.tree(x, "00999");
        x.rule(left, right);
        x.add(right, Check.tree(x, "09099"), -1);
        int asked = Check.sum(x, "1 00999");
        check.due("15: the sum has no terms now", x.terms(right), 0);
        check.due("16: the rule has one still", x.reduce(asked), 1);
        Operadry y = Made.with(2);
        int empty = y.sum();
        y.rule(Check.tree(y, "00999"), empty);
        y.add(empty, Check.tree(y, "09099"), 1);
        int other = Check.sum(y, "1 00999");
        check.due("15: the sum has a term now", y.terms(empty), 1);
        check.due("16: the rule has none still", y.reduce(other), 0);
    }

    private void reducingNothing() {
        Operadry x = Made.with(2);
        refuse("16: no sum", INDEX, () -> x.reduce(0));
        int sum = x.sum();
        refuse("16: -1", INDEX, () -> x.reduce(-1));
        check.due("16: without terms", x.reduce(sum), 0);
        refuse("16: behind", INDEX, () -> x.reduce(1));
        x.add(sum, Check.tree(x, "00999"), 3);
        check.due("16: without rules", x.reduce(sum), 1);
        x.rule(0, Check.sum(x, "1 09099"));
        x.add(sum, 1, -3);
        check.due("12: two terms", x.terms(sum), 2);
        check.due("16: to nothing", x.reduce(sum), 0);
        check.due("12: to nothing", x.terms(sum), 0);
    }

    /**
     * Two pairs under one root: each of them comes, in six steps, to the lowest with 2 to the 31st
     * of it.
     */
    private static Operadry twoPairs(int amount) {
        Operadry x = Made.with(2, 2, 2, 2);
        String[] pairs = {"39399", "39299", "39199", "39099", "29399", "29299", "29199"};
        for (int rule = 0; rule < 6; rule++) {
            x.rule(Check.tree(x, pairs[rule]),
                    Check.sum(x, (rule < 5 ? "64 " : "2 ") + pairs[rule + 1]));
        }
        Check.sum(x, amount + " 03939939399");
        return x;
    }

    private void reducingToTheLeastLong() {
        Operadry x = twoPairs(-2);
        check.due("16: just the least long", x.reduce(6), 1);
        check.dueText("16: just the least long", Check.terms(x, 6),
                "[" + Long.MIN_VALUE + " 02919929199]");
        Operadry y = twoPairs(2);
        refuse("16: one above the greatest long", ARITHMETIC, () -> y.reduce(6));
        check.dueText("16: as before", Check.terms(y, 6), "[2 03939939399]");
        Operadry z = twoPairs(-3);
        refuse("16: far below the least long", ARITHMETIC, () -> z.reduce(6));
        Operadry one = twoPairs(1);
        check.due("16: half of it", one.reduce(6), 1);
        check.due("16: half of it", one.amount(6, 0), 1L << 62);
    }

    /** The least long is turned: that is one above the greatest. */
    private void reducingTheLeastLong() {
        Operadry x = twoPairs(-2);
        x.reduce(6);
        check.due("16: it stays", x.reduce(6), 1);
        check.due("13: it stays", x.amount(6, 0), Long.MIN_VALUE);
        x.rule(Check.tree(x, "09299"), Check.sum(x, "-1 09199"));
        int low = Check.tree(x, "02919929199");
        refuse("16: the least long turned", ARITHMETIC, () -> x.reduce(6));
        check.due("16: as before", x.amount(6, 0), Long.MIN_VALUE);
        check.due("12: as before", x.terms(6), 1);
        x.add(6, low, 1);
        check.due("16: one above it turned", x.reduce(6), 1);
        check.dueText("16: the greatest long", Check.terms(x, 6),
                "[" + Long.MAX_VALUE + " 02919919199]");
    }

    /** What has come to a tree from one side is added to what comes from the other one. */
    private void reducingToTheGreatestLong() {
        Operadry x = Made.ends();
        check.due("16: it stays", x.reduce(Made.GREATEST), 1);
        check.due("13: it stays", x.amount(Made.GREATEST, 0), Long.MAX_VALUE);
        refuse("16: one too much", ARITHMETIC, () -> x.reduce(Made.TOO_MUCH));
        check.due("16: as before", x.amount(Made.TOO_MUCH, 0), 512);
        x.add(Made.TOO_MUCH, Made.LOW, 1);
        refuse("16: two too much", ARITHMETIC, () -> x.reduce(Made.TOO_MUCH));
        x.add(Made.TOO_MUCH, Made.HIGH, -1);
        x.add(Made.TOO_MUCH, Made.LOW, -2);
        check.due("16: far below it", x.reduce(Made.TOO_MUCH), 1);
        check.due("13: far below it", x.amount(Made.TOO_MUCH, 0), (511L << 54) - 1);
        x.add(Made.TOO_MUCH, Made.HIGH, 1);
        check.due("16: just the greatest long", x.reduce(Made.TOO_MUCH), 1);
        check.due("13: just the greatest long", x.amount(Made.TOO_MUCH, 0), Long.MAX_VALUE);
    }

    /**
     * A pair at the right comes to 2 to the 27th of the lowest; so a rule may have a right side
     * with such an amount, and a tree that it is met in may have one too.
     */
    private static Operadry greatAmounts(int right, int asked) {
        return greatAmounts(right, 0, asked, 0);
    }

    /** With some more on the right side, and some more of the tree that is reduced. */
    private static Operadry greatAmounts(int right, int rightMore, int asked, int askedMore) {
        Operadry x = Made.with(2, 2, 2, 2);
        String[] pairs = {"39399", "39299", "39199", "39099", "29399", "29299"};
        for (int rule = 0; rule < 5; rule++) {
            x.rule(Check.tree(x, pairs[rule]),
                    Check.sum(x, (rule < 4 ? "64 " : "8 ") + pairs[rule + 1]));
        }
        int side = x.sum();
        Made.addMany(x, side, Check.tree(x, "39399"), right);
        x.reduce(side);
        x.add(side, Check.tree(x, pairs[5]), rightMore);
        x.rule(Check.tree(x, "33999"), side);
        int sum = x.sum();
        Made.addMany(x, sum, Check.tree(x, "03939933999"), asked);
        x.add(sum, Check.tree(x, "02929933999"), askedMore);
        return x;
    }

    private void reducingByGreatAmounts() {
        for (int right = 1; right <= 512; right *= 8) {
            int asked = 512 / right;
            Operadry least = greatAmounts(right, -asked);
            check.due("16: to the least long by " + right, least.reduce(6), 1);
            check.dueText("16: to the least long by " + right, Check.terms(least, 6),
                    "[" + Long.MIN_VALUE + " 02929929299]");
            Operadry turned = greatAmounts(-right, asked);
            check.due("16: to the least long by -" + right, turned.reduce(6), 1);
            check.due("16: to the least long by -" + right, turned.amount(6, 0), Long.MIN_VALUE);
            for (int sign = -1; sign <= 1; sign += 2) {
                Operadry beyond = greatAmounts(sign * right, sign * asked);
                refuse("16: one above the greatest long by " + sign * right, ARITHMETIC,
                        () -> beyond.reduce(6));
                check.due("13: as before", beyond.amount(6, 0), sign * asked);
            }
            Operadry low = greatAmounts(right, -asked - 1);
            refuse("16: far below the least long by " + right, ARITHMETIC, () -> low.reduce(6));
        }
        Operadry within = greatAmounts(511, 1);
        within.reduce(6);
        check.due("16: within a long", within.amount(6, 0), 511L << 54);
        Operadry below = greatAmounts(-511, 1);
        below.reduce(6);
        check.due("16: within a long", below.amount(6, 0), -511L << 54);
    }

    /** Products around the ends of a long, of which the lowest 64 bits tell nothing. */
    private void reducingByProducts() {
        int[][] factors = {{512, 2}, {2, 512}, {512, -2}, {600, 700}, {22, 23}, {23, 22}, {7, 73},
            {27, 19}, {19, -27}, {-73, 7}, {-511, -1}, {1, -513}, {792, 1}, {-1, 792}, {31, 33}};
        int[][] more = {{0, 0}, {1, 1}, {-1, 1}, {99, -99}, {-99, -98}};
        BigInteger end = BigInteger.ONE.shiftLeft(27);
        for (int[] both : factors) {
            for (int[] added : more) {
                Operadry x = greatAmounts(both[0], added[0], both[1], added[1]);
                BigInteger right = end.multiply(BigInteger.valueOf(both[0]))
                        .add(BigInteger.valueOf(added[0]));
                BigInteger asked = end.multiply(BigInteger.valueOf(both[1]))
                        .add(BigInteger.valueOf(added[1]));
                BigInteger product = right.multiply(asked);
                if (product.bitLength() > 63) {
                    refuse("16: " + right + " times " + asked, ARITHMETIC, () -> x.reduce(6));
                    check.due("13: as before", x.amount(6, 0), both[1]);
                } else {
                    check.due("16: " + right + " times " + asked, x.reduce(6), 1);
                    check.due("13: " + right + " times " + asked, x.amount(6, 0),
                            product.longValue());
                }
            }
        }
    }

    /**
     * Two pairs under one root, each of which comes in five steps to 99 to the 5th of the lowest:
     * both together are beyond a long. Both trees come to them first, and take one another away.
     */
    private void greatestTreeFirst() {
        String[] pairs = {"39199", "39099", "29399", "29299", "29199", "29099"};
        for (int less = 0; less <= 1; less++) {
            Operadry x = Made.with(2, 2, 2, 2);
            x.rule(Check.tree(x, "39399"), Check.sum(x, "1 39199"));
            x.rule(Check.tree(x, "39299"), 0);
            for (int rule = 0; rule < 5; rule++) {
                x.rule(Check.tree(x, pairs[rule]), Check.sum(x, "99 " + pairs[rule + 1]));
            }
            int sum = Check.sum(x, "1 03939939199", (less - 1) + " 03929939199");
            if (less == 0) {
                check.due("16: both come to one tree before that is taken", x.reduce(sum), 0);
                check.due("12: both come to nothing", x.terms(sum), 0);
            } else {
                refuse("16: the greater one alone", ARITHMETIC, () -> x.reduce(sum));
                check.due("12: as before", x.terms(sum), 1);
            }
        }
    }

    /** The lowest tree goes away, but not before all that comes to it is there. */
    private void greatestTreeFirstBeyondLong() {
        Operadry x = Made.ends();
        x.rule(Check.tree(x, "09099"), x.sum());
        x.rule(Check.tree(x, "29099"), Check.sum(x, "1 09099"));
        int above = Check.tree(x, "29" + "09".repeat(5) + "9");
        x.add(Made.GREATEST, above, 1);
        refuse("16: beyond a long before it goes away", ARITHMETIC,
                () -> x.reduce(Made.GREATEST));
        check.due("12: as before", x.terms(Made.GREATEST), 2);
        check.due("13: as before", x.amount(Made.GREATEST, 0), 1);
        check.due("13: as before", x.amount(Made.GREATEST, 1), Long.MAX_VALUE);
        x.add(Made.GREATEST, above, -2);
        check.due("16: less than it before it goes away", x.reduce(Made.GREATEST), 0);
    }

    /** Three places at one operation: from the right, or the middle, another tree would come. */
    private void firstPlaceOfTheTaken() {
        Operadry x = Made.with(2, 3);
        x.rule(Check.tree(x, "109999"), Check.sum(x, "3 091999"));
        x.rule(Check.tree(x, "190999"), Check.sum(x, "5 091999"));
        x.rule(Check.tree(x, "199099"), Check.sum(x, "7 091999"));
        int three = Check.sum(x, "1 1099099099");
        x.reduce(three);
        check.dueText("16: from the left", Check.terms(x, three), "[105 0909091999]");
        int two = Check.sum(x, "1 19099099");
        x.reduce(two);
        check.dueText("16: the middle, then the right", Check.terms(x, two), "[35 09091999]");
    }

    private void normalTrees() {
        Operadry x = Made.with(3);
        refuse("17: no tree", INDEX, () -> Check.bit(x.isNormal(0)));
        int input = Check.tree(x, "9");
        int one = Check.tree(x, "0999");
        refuse("17: behind", INDEX, () -> Check.bit(x.isNormal(2)));
        for (int place = 0; place < 3; place++) {
            String left = "0" + "9".repeat(place) + "0999" + "9".repeat(2 - place);
            int tree = Check.tree(x, left);
            check.due("17: ahead of the rule", x.isNormal(tree), true);
            x.rule(tree, x.sum());
            check.due("17: with it", x.isNormal(tree), false);
        }
        check.due("17: the input", x.isNormal(input), true);
        check.due("17: one operation", x.isNormal(one), true);
        refuse("17: -1", INDEX, () -> Check.bit(x.isNormal(-1)));
    }

    private void confluentWithoutPlaces() {
        check.due("20: a new object", new Operadry().isConfluent(), true);
        Operadry x = Made.with(2, 2);
        check.due("20: without rules", x.isConfluent(), true);
        x.rule(Check.tree(x, "01999"), x.sum());
        check.due("20: no tree with two places", x.isConfluent(), true);
    }

    /** Each pair at the right comes to the next lower one; with one way to 2 to the 63rd. */
    private void confluentAtTheEndsOfLong() {
        String[] pairs = {"39399", "39299", "39199", "39099", "29399", "29299", "29199", "29099",
            "19399"};
        int[] amounts = {16, 16, 32, 32, 32, 1, 8, 32};
        for (int sign = -1; sign <= 1; sign += 2) {
            Operadry x = Made.with(2, 2, 2, 2);
            for (int rule = 0; rule < 8; rule++) {
                int amount = rule == 0 ? sign * amounts[0] : amounts[rule];
                x.rule(Check.tree(x, pairs[rule]), Check.sum(x, amount + " " + pairs[rule + 1]));
            }
            if (sign < 0) {
                check.due("20: to the least long", x.isConfluent(), false);
            } else {
                refuse("20: one above the greatest long", ARITHMETIC,
                        () -> Check.bit(x.isConfluent()));
            }
        }
    }

    private void checksumOfNothing() {
        Operadry x = Made.with(2);
        check.due("41: without sums", x.checksum(), 7);
        for (int sum = 0; sum < 10; sum++) {
            x.sum();
        }
        check.due("41: without terms", x.checksum(), 7);
        x.add(9, Check.tree(x, "9"), -99);
        check.due("41: a term of the last sum", x.checksum(), (7 * 31 - 99) * 31 + 9);
    }

    /** The sum wraps around many times. */
    private void checksumAroundTheEnds() {
        Operadry x = Made.with(2);
        Check.sum(x, "99 " + "0".repeat(8) + "9".repeat(9), "-99 " + "09".repeat(8) + "9");
        String signs = "99 " + "0 ".repeat(8) + "9 ".repeat(9) + "-99 " + "0 9 ".repeat(8) + "9";
        check.due("41: around", x.checksum(), checksumOf(signs));
        Operadry y = Made.ends();
        StringBuilder all = new StringBuilder();
        for (int sum = 0; sum <= Made.TOO_MUCH; sum++) {
            for (int term = 0; term < y.terms(sum); term++) {
                all.append(y.amount(sum, term)).append(' ');
                int signsOfRow = sum < Made.LEAST ? 5 : 13;
                for (int place = 0; place < signsOfRow; place++) {
                    all.append(y.termSign(sum, term, place)).append(' ');
                }
            }
        }
        check.due("41: with the least and the greatest long", y.checksum(),
                checksumOf(all.toString()));
    }

    /** With numbers without end, of which the lowest 64 bits are taken. */
    private static long checksumOf(String numbers) {
        BigInteger all = BigInteger.valueOf(7);
        for (String number : numbers.trim().split(" +")) {
            all = all.multiply(BigInteger.valueOf(31)).add(new BigInteger(number));
        }
        return all.longValue();
    }

    private void means() {
        Operadry x = Made.with(2);
        refuse("43: no sums", ARITHMETIC, () -> (long) x.meanTerms());
        x.sum();
        check.due("43: one sum without terms", x.meanTerms() == 0.0, true);
        x.add(0, Check.tree(x, "099"), 1);
        check.due("43: one term", x.meanTerms() == 1.0, true);
        for (int sum = 1; sum < 10; sum++) {
            x.sum();
        }
        check.due("43: one term of ten sums", x.meanTerms() == 1.0 / 10.0, true);
        x.add(9, 0, -1);
        check.due("43: two terms of ten sums", x.meanTerms() == 2.0 / 10.0, true);
    }
}
