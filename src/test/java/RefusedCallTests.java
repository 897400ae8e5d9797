import java.util.NoSuchElementException;
import java.util.function.ToLongFunction;

/**
 * For each exception that a promise lists: that it is thrown, that of two conditions the one that
 * is listed first is, and that the calls that show the state answer as if it had not been called.
 */
public final class RefusedCallTests {
    private static final Class<IllegalArgumentException> ARGUMENT = IllegalArgumentException.class;
    private static final Class<IllegalStateException> STATE = IllegalStateException.class;
    private static final Class<IndexOutOfBoundsException> INDEX = IndexOutOfBoundsException.class;
    private static final Class<NoSuchElementException> ELEMENT = NoSuchElementException.class;
    private static final Class<UnsupportedOperationException> UNSUPPORTED =
            UnsupportedOperationException.class;
    private static final Class<ArithmeticException> ARITHMETIC = ArithmeticException.class;

    private static final String FORTY = "0120120120120120120120120120120120120120";
    private static final int[] FAR = {-1, Integer.MIN_VALUE, Integer.MAX_VALUE};

    private final Check check = new Check();

    private RefusedCallTests() {
    }

    public static void main(String[] args) {
        RefusedCallTests tests = new RefusedCallTests();
        tests.operation();
        tests.type();
        tests.tree();
        tests.treeNumbers();
        tests.compose();
        tests.composeWhenFull();
        tests.sum();
        tests.add();
        tests.addAtTheEnds();
        tests.terms();
        tests.rule();
        tests.ruleWhenFull();
        tests.reduce();
        tests.confluent();
        tests.counts();
        tests.inverse();
        tests.shrub();
        tests.shrubNumbers();
        tests.stages();
        tests.fractions();
        tests.weight();
        tests.word();
        tests.wordNumbers();
        tests.lyndonsAndFaces();
        tests.shares();
        tests.check.end();
    }

    private void half(String what, Class<? extends RuntimeException> kind,
            ToLongFunction<Operadry> call) {
        check.refused(what, kind, () -> Made.half("01"), call);
    }

    private void full(String what, Class<? extends RuntimeException> kind,
            ToLongFunction<Operadry> call) {
        full(what, kind, "0", call);
    }

    private void full(String what, Class<? extends RuntimeException> kind, String row,
            ToLongFunction<Operadry> call) {
        check.refused(what, kind, () -> Made.full(row), call);
    }

    private void operation() {
        half("2: one input", ARGUMENT, x -> x.operation(1));
        half("2: four inputs", ARGUMENT, x -> x.operation(4));
        full("2: a fifth, narrow", STATE, x -> x.operation(2));
        full("2: a fifth, wide", STATE, x -> x.operation(3));
        full("2: one input, and a fifth", ARGUMENT, x -> x.operation(1));
        full("2: four inputs, and a fifth", ARGUMENT, x -> x.operation(4));
    }

    private void type() {
        half("3: -1", ARGUMENT, x -> x.type(-1));
        half("3: 10", ARGUMENT, x -> x.type(10));
        full("3: a 41st, 0", STATE, FORTY, x -> x.type(0));
        full("3: a 41st, 9", STATE, FORTY, x -> x.type(9));
        full("3: -1, and a 41st", ARGUMENT, FORTY, x -> x.type(-1));
        full("3: 10, and a 41st", ARGUMENT, FORTY, x -> x.type(10));
    }

    private void tree() {
        for (String row : new String[] {"", "0", "09", "0999", "99", "499", "4", "10989", FORTY,
            "0".repeat(9) + "9".repeat(10), "9".repeat(40), "0".repeat(40)}) {
            check.refused("5: " + row, UNSUPPORTED, () -> Made.half(row), Operadry::tree);
            full("5: when there are 40, " + row, UNSUPPORTED, row, Operadry::tree);
        }
        check.refused("5: a fourth operation, which there is not", UNSUPPORTED,
                () -> Made.half("399"), Operadry::tree);
        check.refused("5: 9 wide operations", UNSUPPORTED,
                () -> Made.half("2".repeat(9) + "9".repeat(19)), Operadry::tree);
        check.refused("5: 13 wide operations", UNSUPPORTED,
                () -> Made.half("2".repeat(13) + "9".repeat(27)), Operadry::tree);
        full("5: another one", STATE, "0009999", Operadry::tree);
        full("5: another one with 8 operations", STATE, "09090909090909099", Operadry::tree);
    }

    private void treeNumbers() {
        for (int tree : with(Made.HALF_TREES)) {
            half("6: tree " + tree, INDEX, x -> x.inputs(tree));
            half("7: tree " + tree, INDEX, x -> x.signAt(tree, 0));
            half("7: tree and place " + tree, INDEX, x -> x.signAt(tree, -1));
            half("8: tree " + tree, INDEX, x -> x.compose(tree, 0, 1));
            half("8: other tree " + tree, INDEX, x -> x.compose(1, 0, tree));
            half("8: other tree and input " + tree, INDEX, x -> x.compose(1, 2, tree));
            half("8: tree and input " + tree, INDEX, x -> x.compose(tree, -1, 1));
            half("9: one tree " + tree, INDEX, x -> x.compare(tree, 0));
            half("9: other tree " + tree, INDEX, x -> x.compare(0, tree));
            half("9: both trees " + tree, INDEX, x -> x.compare(tree, tree));
            half("17: tree " + tree, INDEX, x -> Check.bit(x.isNormal(tree)));
        }
        full("6: a 41st tree", INDEX, x -> x.inputs(40));
        half("7: before the row", ELEMENT, x -> x.signAt(Made.LEFT, -1));
        half("7: behind the row", ELEMENT, x -> x.signAt(Made.LEFT, 5));
        half("7: behind the shortest row", ELEMENT, x -> x.signAt(Made.INPUT, 1));
    }

    /** A number that there isn't, just behind those that there are, and some far off. */
    private static int[] with(int behind) {
        return new int[] {behind, FAR[0], FAR[1], FAR[2]};
    }

    private void compose() {
        half("8: before the inputs", ELEMENT, x -> x.compose(Made.LEFT, -1, Made.PAIR));
        half("8: behind the inputs", ELEMENT, x -> x.compose(Made.LEFT, 3, Made.PAIR));
        half("8: behind the only input", ELEMENT, x -> x.compose(Made.INPUT, 1, Made.PAIR));
        half("8: no input, for a tree that is kept", ELEMENT,
                x -> x.compose(Made.LEFT, 3, Made.INPUT));
        check.refused("8: 9 operations", UNSUPPORTED, RefusedCallTests::withEight,
                x -> x.compose(0, 0, 1));
        check.refused("8: 9 operations, turned", UNSUPPORTED, RefusedCallTests::withEight,
                x -> x.compose(1, 1, 0));
        check.refused("8: no input, and 9 operations", ELEMENT, RefusedCallTests::withEight,
                x -> x.compose(0, 9, 1));
        check.refused("8: no tree, and no input", INDEX, RefusedCallTests::withEight,
                x -> x.compose(0, 9, 2));
    }

    private static Operadry withEight() {
        Operadry x = Made.with(2);
        Check.tree(x, "00000000999999999");
        Check.tree(x, "099");
        return x;
    }

    private void composeWhenFull() {
        full("8: another one", STATE, x -> x.compose(Made.FOUR, 1, 1));
        full("8: another one with 8 operations", STATE,
                x -> x.compose(Made.FOUR, 1, Made.FOUR));
        full("8: 9 operations, and another one", UNSUPPORTED,
                x -> x.compose(Made.FOUR, 1, Made.FIVE));
        full("8: no input, and another one", ELEMENT, x -> x.compose(Made.FOUR, 5, 1));
        full("8: no input, 9 operations, and another one", ELEMENT,
                x -> x.compose(Made.FIVE, 6, Made.FOUR));
        full("8: no other tree, and another one", INDEX, x -> x.compose(Made.FOUR, 1, 40));
        full("8: no tree, and another one", INDEX, x -> x.compose(40, 1, Made.FOUR));
    }

    private void sum() {
        full("10: an eleventh", STATE, Operadry::sum);
    }

    private void add() {
        for (int none : FAR) {
            half("11: sum " + none, INDEX, x -> x.add(none, Made.PAIR, 1));
            half("11: tree " + none, INDEX, x -> x.add(Made.OF_PAIR, none, 1));
        }
        half("11: sum", INDEX, x -> x.add(Made.HALF_SUMS, Made.PAIR, 1));
        half("11: tree", INDEX, x -> x.add(Made.OF_PAIR, Made.HALF_TREES, 1));
        half("11: sum, and amount", INDEX, x -> x.add(Made.HALF_SUMS, Made.PAIR, 100));
        half("11: tree, and amount", INDEX, x -> x.add(Made.OF_PAIR, Made.HALF_TREES, -100));
        half("11: 100", ARGUMENT, x -> x.add(Made.OF_PAIR, Made.PAIR, 100));
        half("11: -100", ARGUMENT, x -> x.add(Made.OF_PAIR, Made.PAIR, -100));
        half("11: 100, without terms", ARGUMENT, x -> x.add(Made.NO_TERMS, Made.PAIR, 100));
        half("11: 100, and other inputs", ARGUMENT, x -> x.add(Made.OF_PAIR, Made.LEFT, 100));
        half("11: -100, and other inputs", ARGUMENT, x -> x.add(Made.OF_PAIR, Made.LEFT, -100));
        half("11: fewer inputs", UNSUPPORTED, x -> x.add(Made.OF_PAIR, Made.INPUT, 1));
        half("11: more inputs", UNSUPPORTED, x -> x.add(Made.OF_PAIR, Made.WIDE, 1));
        half("11: fewer inputs, be the amount 0", UNSUPPORTED,
                x -> x.add(Made.OF_PAIR, Made.INPUT, 0));
        half("11: more inputs, be the amount 0", UNSUPPORTED,
                x -> x.add(Made.OF_PAIR, Made.WIDE, 0));
    }

    private void addAtTheEnds() {
        ends("11: one below the least long", ARITHMETIC, x -> x.add(Made.LEAST, Made.LOW, -1));
        ends("11: 99 below the least long", ARITHMETIC, x -> x.add(Made.LEAST, Made.LOW, -99));
        ends("11: one above the greatest long", ARITHMETIC,
                x -> x.add(Made.GREATEST, Made.LOW, 1));
        ends("11: 99 above the greatest long", ARITHMETIC,
                x -> x.add(Made.GREATEST, Made.LOW, 99));
        ends("11: 100, and above the greatest long", ARGUMENT,
                x -> x.add(Made.GREATEST, Made.LOW, 100));
        ends("11: -100, and below the least long", ARGUMENT,
                x -> x.add(Made.LEAST, Made.LOW, -100));
        ends("11: other inputs, in a sum at the end", UNSUPPORTED,
                x -> x.add(Made.GREATEST, 2, 1));
    }

    private void ends(String what, Class<? extends RuntimeException> kind,
            ToLongFunction<Operadry> call) {
        check.refused(what, kind, Made::ends, call);
    }

    private void terms() {
        for (int sum : with(Made.HALF_SUMS)) {
            half("12: sum " + sum, INDEX, x -> x.terms(sum));
            half("13: sum " + sum, INDEX, x -> x.amount(sum, 0));
            half("13: sum and term " + sum, INDEX, x -> x.amount(sum, -1));
            half("14: sum " + sum, INDEX, x -> x.termSign(sum, 0, 0));
            half("14: sum and term " + sum, INDEX, x -> x.termSign(sum, -1, 0));
            half("14: sum and place " + sum, INDEX, x -> x.termSign(sum, 0, -1));
            half("16: sum " + sum, INDEX, x -> x.reduce(sum));
        }
        for (int term : with(2)) {
            half("13: term " + term, ELEMENT, x -> x.amount(Made.TWO_TERMS, term));
            half("14: term " + term, ELEMENT, x -> x.termSign(Made.TWO_TERMS, term, 0));
        }
        for (int place : with(5)) {
            half("14: place " + place, ELEMENT, x -> x.termSign(Made.TWO_TERMS, 1, place));
        }
        half("13: without terms", ELEMENT, x -> x.amount(Made.NO_TERMS, 0));
        half("14: without terms", ELEMENT, x -> x.termSign(Made.NO_TERMS, 0, 0));
    }

    private void rule() {
        for (int none : FAR) {
            half("15: tree " + none, INDEX, x -> x.rule(none, Made.NO_TERMS));
            half("15: sum " + none, INDEX, x -> x.rule(Made.LEFT, none));
        }
        half("15: tree", INDEX, x -> x.rule(Made.HALF_TREES, Made.NO_TERMS));
        half("15: sum", INDEX, x -> x.rule(Made.LEFT, Made.HALF_SUMS));
        half("15: sum, and one operation", INDEX, x -> x.rule(Made.PAIR, Made.HALF_SUMS));
        half("15: sum, and a left side", INDEX, x -> x.rule(Made.RULED, Made.HALF_SUMS));
        half("15: tree, and a sum of others", INDEX, x -> x.rule(Made.HALF_TREES, Made.OF_PAIR));
        half("15: no operation", UNSUPPORTED, x -> x.rule(Made.INPUT, Made.NO_TERMS));
        half("15: one operation", UNSUPPORTED, x -> x.rule(Made.PAIR, Made.NO_TERMS));
        half("15: one wide operation", UNSUPPORTED, x -> x.rule(Made.WIDE, Made.NO_TERMS));
        half("15: three operations", UNSUPPORTED, x -> x.rule(Made.THREE, Made.NO_TERMS));
        half("15: a left side", UNSUPPORTED, x -> x.rule(Made.RULED, Made.NO_TERMS));
        half("15: a left side, and its own sum", UNSUPPORTED,
                x -> x.rule(Made.RULED, Made.TWO_TERMS));
        half("15: a tree of the sum is the left side", UNSUPPORTED,
                x -> x.rule(Made.LEFT, Made.TWO_TERMS));
        half("15: a tree of the sum is greater", UNSUPPORTED,
                x -> x.rule(Made.RIGHT, Made.TWO_TERMS));
        half("15: fewer inputs", UNSUPPORTED, x -> x.rule(Made.LEFT, Made.OF_PAIR));
        half("15: more inputs", UNSUPPORTED, x -> x.rule(Made.LEFT, Made.OF_THREE));
    }

    private void ruleWhenFull() {
        full("15: a ninth", STATE, x -> x.rule(Made.NOT_RULED, 0));
        full("15: a ninth with a right side", STATE, x -> x.rule(Made.NOT_RULED + 1, 1));
        full("15: a left side, and a ninth", UNSUPPORTED, x -> x.rule(Made.FIRST_RULED, 0));
        full("15: one operation, and a ninth", UNSUPPORTED, x -> x.rule(1, 0));
        full("15: not lower, and a ninth", UNSUPPORTED, x -> x.rule(Made.NOT_RULED, 1));
        full("15: other inputs, and a ninth", UNSUPPORTED, x -> x.rule(Made.NOT_RULED, 9));
        full("15: no sum, and a ninth", INDEX, x -> x.rule(Made.NOT_RULED, 10));
        full("15: no tree, and a ninth", INDEX, x -> x.rule(40, 0));
    }

    private void reduce() {
        full("16: an eleventh sum", INDEX, x -> x.reduce(10));
        ends("16: one above the greatest long", ARITHMETIC, x -> x.reduce(Made.TOO_MUCH));
    }

    private void confluent() {
        check.refused("20: an amount beyond a long", ARITHMETIC, RefusedCallTests::climbing,
                x -> Check.bit(x.isConfluent()));
    }

    /** Each pair of operations at the right comes to 99 times the next lower one. */
    private static Operadry climbing() {
        Operadry x = Made.with(2, 2, 2, 2);
        int higher = Check.tree(x, "39399");
        for (String pair : new String[] {"39299", "39199", "39099", "29399", "29299", "29199",
            "29099", "19399"}) {
            x.rule(higher, Check.sum(x, "99 " + pair));
            higher = Check.tree(x, pair);
        }
        return x;
    }

    private void counts() {
        for (int inputs : new int[] {0, 11, -1, Integer.MIN_VALUE, Integer.MAX_VALUE}) {
            half("18: " + inputs, ARGUMENT, x -> x.normals(inputs));
            half("19: " + inputs, ARGUMENT, x -> x.duals(inputs));
        }
    }

    private void inverse() {
        for (int inputs : new int[] {0, 9, -1, Integer.MIN_VALUE, Integer.MAX_VALUE}) {
            full("21: " + inputs, ARGUMENT, x -> Check.bit(x.isInverse(inputs)));
            half("21: a wide operation, and " + inputs, ARGUMENT,
                    x -> Check.bit(x.isInverse(inputs)));
        }
        half("21: a wide operation", UNSUPPORTED, x -> Check.bit(x.isInverse(1)));
        half("21: a wide operation, up to 8", UNSUPPORTED, x -> Check.bit(x.isInverse(8)));
    }

    private void shrub() {
        for (String row : new String[] {"", "1", "9", "01", "002", "00123457", "000000000", "09"}) {
            check.refused("22: " + row, UNSUPPORTED, () -> Made.half(row), Operadry::shrub);
            full("22: when there are 12, " + row, UNSUPPORTED, row, Operadry::shrub);
        }
        full("22: a thirteenth", STATE, "0001", Operadry::shrub);
        full("22: a thirteenth with 8 knots", STATE, "00123456", Operadry::shrub);
    }

    private void shrubNumbers() {
        for (int shrub : with(Made.HALF_SHRUBS)) {
            half("23: " + shrub, INDEX, x -> x.knots(shrub));
            half("24: " + shrub, INDEX, x -> x.symmetry(shrub));
            half("25: " + shrub, INDEX, x -> x.density(shrub));
            half("26: " + shrub, INDEX, x -> x.growths(shrub));
            half("27: " + shrub, INDEX, x -> x.cuts(shrub, 0));
            half("27: trunk " + shrub, INDEX, x -> x.cuts(0, shrub));
            half("28: " + shrub, INDEX, x -> x.grafts(shrub, 0, 0));
            half("28: graft " + shrub, INDEX, x -> x.grafts(0, shrub, 0));
            half("28: result " + shrub, INDEX, x -> x.grafts(0, 0, shrub));
            half("32: upper " + shrub, INDEX, x -> x.weight(shrub, true));
            half("32: lower " + shrub, INDEX, x -> x.weight(shrub, false));
        }
        full("23: a thirteenth", INDEX, x -> x.knots(12));
    }

    private void stages() {
        for (int stages : new int[] {0, 5, -1, Integer.MIN_VALUE, Integer.MAX_VALUE}) {
            half("29: " + stages, ARGUMENT, x -> x.stages(stages));
        }
    }

    private void fractions() {
        for (int stage : with(Made.HALF_STAGES)) {
            half("30: from " + stage, INDEX, x -> x.step(stage, 0, 1, 1));
            half("30: to " + stage, INDEX, x -> x.step(0, stage, 1, 1));
            half("30: from, and upper " + stage, INDEX, x -> x.step(stage, 0, 100, 1));
            half("30: to, and lower " + stage, INDEX, x -> x.step(0, stage, 1, 0));
            half("31: " + stage, INDEX, x -> x.last(stage, 1, 1));
            half("31: stage and upper " + stage, INDEX, x -> x.last(stage, -100, 1));
            half("31: stage and lower " + stage, INDEX, x -> x.last(stage, 1, 100));
        }
        for (int upper : new int[] {100, -100, Integer.MIN_VALUE, Integer.MAX_VALUE}) {
            half("30: upper " + upper, ARGUMENT, x -> x.step(1, 0, upper, 1));
            half("31: upper " + upper, ARGUMENT, x -> x.last(1, upper, 1));
        }
        for (int lower : new int[] {0, 100, -1, Integer.MIN_VALUE, Integer.MAX_VALUE}) {
            half("30: lower " + lower, ARGUMENT, x -> x.step(1, 0, 1, lower));
            half("30: lower, and the upper one 0 " + lower, ARGUMENT,
                    x -> x.step(1, 0, 0, lower));
            half("31: lower " + lower, ARGUMENT, x -> x.last(1, 1, lower));
        }
        full("30: a fifth stage", INDEX, x -> x.step(4, 0, 1, 1));
        full("30: to a fifth stage", INDEX, x -> x.step(0, 4, 1, 1));
        full("31: a fifth stage", INDEX, x -> x.last(4, 1, 1));
    }

    private void weight() {
        check.refused("32: the upper one is beyond a long", ARITHMETIC,
                () -> withWeight(64, 1, 32, 1), x -> x.weight(0, true));
        check.refused("32: the lower one is beyond a long", ARITHMETIC,
                () -> withWeight(1, 99, 1, 98), x -> x.weight(0, false));
    }

    /** A shrub with 8 knots, and four stages with two fractions that take turns. */
    private static Operadry withWeight(int upper, int lower, int last, int other) {
        Operadry x = new Operadry();
        Check.shrub(x, "00000000");
        x.stages(4);
        for (int from = 0; from < 4; from++) {
            for (int to = 0; to < 4; to++) {
                x.step(from, to, upper, to % 2 == 0 ? lower : other);
            }
            x.last(from, last, from % 2 == 0 ? lower : other);
        }
        return x;
    }

    private void word() {
        for (String row : new String[] {"", "3", "9", "0003", "3000", "000000000", "012012013"}) {
            check.refused("34: " + row, UNSUPPORTED, () -> Made.half(row), Operadry::word);
            full("34: when there are 12, " + row, UNSUPPORTED, row, Operadry::word);
        }
        full("34: a thirteenth", STATE, "2", Operadry::word);
        full("34: a thirteenth with 8 letters", STATE, "01201201", Operadry::word);
    }

    private void wordNumbers() {
        for (int word : with(Made.HALF_WORDS)) {
            half("35: " + word, INDEX, x -> x.factors(word));
            half("36: " + word, INDEX, x -> x.factor(word, 0));
            half("36: word and index " + word, INDEX, x -> x.factor(word, -1));
            half("37: " + word, INDEX, x -> x.bracketed(word, 0));
            half("37: other " + word, INDEX, x -> x.bracketed(0, word));
            half("37: no Lyndon word, and other " + word, INDEX, x -> x.bracketed(2, word));
            half("38: one " + word, INDEX, x -> x.shuffles(word, 0, 0));
            half("38: other " + word, INDEX, x -> x.shuffles(0, word, 0));
            half("38: word " + word, INDEX, x -> x.shuffles(0, 0, word));
        }
        full("35: a thirteenth", INDEX, x -> x.factors(12));
        for (int index : with(2)) {
            half("36: index " + index, ELEMENT, x -> x.factor(2, index));
        }
        half("37: falling", UNSUPPORTED, x -> x.bracketed(2, 2));
        half("37: repeated", UNSUPPORTED, x -> x.bracketed(3, 0));
    }

    private void lyndonsAndFaces() {
        for (int wrong : new int[] {0, 13, -1, Integer.MIN_VALUE, Integer.MAX_VALUE}) {
            half("39: length " + wrong, ARGUMENT, x -> x.lyndons(2, wrong));
        }
        for (int wrong : new int[] {0, 10, -1, Integer.MIN_VALUE, Integer.MAX_VALUE}) {
            half("39: letters " + wrong, ARGUMENT, x -> x.lyndons(wrong, 2));
        }
        for (int inputs : new int[] {1, 13, 0, -1, Integer.MIN_VALUE, Integer.MAX_VALUE}) {
            half("40: " + inputs, ARGUMENT, x -> x.faces(inputs, 0));
        }
    }

    private void shares() {
        for (int inputs : new int[] {0, 11, -1, Integer.MIN_VALUE, Integer.MAX_VALUE}) {
            half("42: " + inputs, ARGUMENT, x -> (long) x.normalShare(inputs));
            check.refused("42: no trees, and " + inputs, ARGUMENT, Operadry::new,
                    x -> (long) x.normalShare(inputs));
        }
        check.refused("42: no trees", ARITHMETIC, Operadry::new, x -> (long) x.normalShare(2));
        check.refused("42: no trees with 10 inputs", ARITHMETIC, () -> Made.with(3),
                x -> (long) x.normalShare(10));
        check.refused("43: no sums", ARITHMETIC, Operadry::new, x -> (long) x.meanTerms());
    }
}
