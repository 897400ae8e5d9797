import java.util.NoSuchElementException;

/** Promises 1 to 9: a new object, operations, the typed row, and trees. */
public final class TreeTests {
    private final Check check = new Check();

    private TreeTests() {
    }

    public static void main(String[] args) {
        TreeTests tests = new TreeTests();
        tests.newObject();
        tests.operations();
        tests.typing();
        tests.treesOfRows();
        tests.wrongRows();
        tests.fortyTrees();
        tests.signs();
        tests.composing();
        tests.composingWrong();
        tests.comparing();
        tests.check.end();
    }

    private void newObject() {
        Operadry x = new Operadry();
        check.due("1: typed", x.wipe(), 0);
        check.due("1: normals(1)", x.normals(1), 1);
        check.due("1: normals(2)", x.normals(2), 0);
        check.due("1: checksum", x.checksum(), 7);
        check.due("1: order", x.order(), 0);
        check.due("1: confluent", x.isConfluent(), true);
        check.due("1: sound", x.isSound(), true);
        check.thrown("1: no tree", IndexOutOfBoundsException.class, () -> x.inputs(0));
        check.thrown("1: no sum", IndexOutOfBoundsException.class, () -> x.terms(0));
        check.thrown("1: no shrub", IndexOutOfBoundsException.class, () -> x.knots(0));
        check.thrown("1: no word", IndexOutOfBoundsException.class, () -> x.factors(0));
        check.thrown("1: one stage alone", IndexOutOfBoundsException.class, () -> x.last(1, 1, 1));
        check.due("1: one stage", x.last(0, 0, 1), 0);
        check.due("1: stages", x.stages(1), 1);
        check.due("1: first operation", x.operation(2), 0);
    }

    private void operations() {
        Operadry x = new Operadry();
        check.thrown("2: 1", IllegalArgumentException.class, () -> x.operation(1));
        check.thrown("2: 4", IllegalArgumentException.class, () -> x.operation(4));
        check.thrown("2: least", IllegalArgumentException.class,
                () -> x.operation(Integer.MIN_VALUE));
        check.due("2: first", x.operation(2), 0);
        check.due("2: second", x.operation(3), 1);
        check.due("2: third", x.operation(3), 2);
        check.due("2: fourth", x.operation(2), 3);
        check.thrown("2: fifth", IllegalStateException.class, () -> x.operation(2));
        check.thrown("2: first listed", IllegalArgumentException.class, () -> x.operation(5));
        check.due("2: widths", x.normals(3), 2 * 2 * 2 + 2);
        check.due("2: row of all", x.inputs(Check.tree(x, "01999299399")), 7);
    }

    private void typing() {
        Operadry x = new Operadry();
        check.thrown("3: -1", IllegalArgumentException.class, () -> x.type(-1));
        check.thrown("3: 10", IllegalArgumentException.class, () -> x.type(10));
        for (int i = 1; i <= 40; i++) {
            check.due("3: type", x.type(i % 10), i);
        }
        check.thrown("3: full", IllegalStateException.class, () -> x.type(0));
        check.thrown("3: first listed", IllegalArgumentException.class, () -> x.type(10));
        check.due("4: wipe", x.wipe(), 40);
        check.due("4: wipe again", x.wipe(), 0);
        check.due("3: after it", x.type(9), 1);
        check.due("4: one", x.wipe(), 1);
    }

    private void treesOfRows() {
        Operadry x = new Operadry();
        x.operation(2);
        x.operation(3);
        check.due("5: an input", Check.tree(x, "9"), 0);
        check.due("5: first", Check.tree(x, "099"), 1);
        check.due("5: wide", Check.tree(x, "1999"), 2);
        check.due("5: like one", Check.tree(x, "099"), 1);
        check.due("5: again, as the row stays", x.tree(), 1);
        check.due("5: nested", Check.tree(x, "01909999"), 3);
        check.due("5: the row stays", x.wipe(), 8);
        check.due("5: 8 operations", Check.tree(x, "1111111199999999999999999"), 4);
        check.due("6: an input", x.inputs(0), 1);
        check.due("6: first", x.inputs(1), 2);
        check.due("6: wide", x.inputs(2), 3);
        check.due("6: nested", x.inputs(3), 5);
        check.due("6: 8 operations", x.inputs(4), 17);
        check.thrown("6: below", IndexOutOfBoundsException.class, () -> x.inputs(-1));
        check.thrown("6: beyond", IndexOutOfBoundsException.class, () -> x.inputs(5));
        check.thrown("6: most", IndexOutOfBoundsException.class,
                () -> x.inputs(Integer.MAX_VALUE));
    }

    private void wrongRows() {
        Operadry x = new Operadry();
        wrongRow(x, "099");
        x.operation(2);
        wrongRow(x, "");
        wrongRow(x, "0");
        wrongRow(x, "09");
        wrongRow(x, "0999");
        wrongRow(x, "99");
        wrongRow(x, "199");
        wrongRow(x, "089");
        wrongRow(x, "0199");
        wrongRow(x, "0000000009999999999");
        check.due("5: 8 operations", Check.tree(x, "00000000999999999"), 0);
        check.due("5: nothing was kept", Check.tree(x, "099"), 1);
        x.wipe();
        for (int i = 0; i < 40; i++) {
            x.type(0);
        }
        check.thrown("5: forty operations", UnsupportedOperationException.class, x::tree);
        check.due("5: the row stays", x.wipe(), 40);
    }

    private void wrongRow(Operadry x, String row) {
        Check.row(x, row);
        check.thrown("5: " + row, UnsupportedOperationException.class, x::tree);
        check.due("5: the row stays: " + row, x.wipe(), row.length());
    }

    private void fortyTrees() {
        Operadry x = fortyKept(check);
        Check.row(x, "01929399");
        check.thrown("5: wrong row, when full", UnsupportedOperationException.class, x::tree);
        Check.row(x, "0199299");
        check.thrown("5: another one", IllegalStateException.class, x::tree);
        check.due("5: like one, when full", Check.tree(x, "30999"), 39);
        check.thrown("5: none was kept", IndexOutOfBoundsException.class, () -> x.inputs(40));
        check.thrown("8: another one", IllegalStateException.class, () -> x.compose(4, 0, 4));
        check.due("8: like one, when full", x.compose(2, 1, 1), 9);
        check.due("8: an input, when full", x.compose(39, 2, 0), 39);
        check.thrown("8: none was kept", IndexOutOfBoundsException.class, () -> x.inputs(40));
    }

    /** The input, all trees with one operation, and all with two but the last one of them. */
    private static Operadry fortyKept(Check check) {
        Operadry x = new Operadry();
        for (int i = 0; i < 4; i++) {
            x.operation(2);
        }
        check.due("5: an input", Check.tree(x, "9"), 0);
        for (int i = 0; i < 4; i++) {
            check.due("5: one operation", Check.tree(x, i + "99"), 1 + i);
        }
        int kept = 5;
        for (int one = 0; one < 4; one++) {
            for (int other = 0; other < 4; other++) {
                check.due("5: right", Check.tree(x, one + "9" + other + "99"), kept++);
            }
        }
        for (int one = 0; one < 4; one++) {
            for (int other = 0; other < 4; other++) {
                if (one * 4 + other < 12) {
                    check.due("5: left", Check.tree(x, "" + one + other + "999"), kept++);
                }
            }
        }
        for (int i = 0; kept < 39; i++) {
            check.due("5: three", Check.tree(x, "000" + i + "99999"), kept++);
            check.due("5: three", Check.tree(x, "009" + i + "999"), kept++);
        }
        check.due("5: the last one", Check.tree(x, "30999"), 39);
        return x;
    }

    private void signs() {
        Operadry x = new Operadry();
        x.operation(3);
        x.operation(2);
        Check.tree(x, "091999");
        Check.tree(x, "9");
        check.dueText("7: row", Check.tree(x, 0), "091999");
        check.dueText("7: input", Check.tree(x, 1), "9");
        check.due("7: first", x.signAt(0, 0), 0);
        check.due("7: third", x.signAt(0, 2), 1);
        check.due("7: last", x.signAt(0, 5), 9);
        check.thrown("7: before", NoSuchElementException.class, () -> x.signAt(0, -1));
        check.thrown("7: behind", NoSuchElementException.class, () -> x.signAt(0, 6));
        check.thrown("7: far behind", NoSuchElementException.class,
                () -> x.signAt(0, Integer.MAX_VALUE));
        check.thrown("7: no tree", IndexOutOfBoundsException.class, () -> x.signAt(2, 0));
        check.thrown("7: first listed", IndexOutOfBoundsException.class, () -> x.signAt(-1, -1));
    }

    private void composing() {
        Operadry x = new Operadry();
        x.operation(2);
        x.operation(3);
        int input = Check.tree(x, "9");
        int pair = Check.tree(x, "099");
        int wide = Check.tree(x, "1999");
        check.due("8: at the left", x.compose(pair, 0, wide), 3);
        check.dueText("8: at the left", Check.tree(x, 3), "019999");
        check.due("8: at the right", x.compose(pair, 1, wide), 4);
        check.dueText("8: at the right", Check.tree(x, 4), "091999");
        check.due("8: in the middle", x.compose(3, 2, pair), 5);
        check.dueText("8: in the middle", Check.tree(x, 5), "01990999");
        check.due("8: with itself", x.compose(pair, 0, pair), 6);
        check.dueText("8: with itself", Check.tree(x, 6), "00999");
        check.due("8: an input put in", x.compose(wide, 2, input), wide);
        check.due("8: into the input", x.compose(input, 0, wide), wide);
        check.due("8: input and input", x.compose(input, 0, input), input);
        check.due("8: the typed row stays", x.wipe(), 4);
    }

    private void composingWrong() {
        Operadry x = new Operadry();
        x.operation(2);
        int four = Check.tree(x, "000099999");
        int five = Check.tree(x, "00000999999");
        check.thrown("8: no tree", IndexOutOfBoundsException.class, () -> x.compose(2, 0, 0));
        check.thrown("8: no other tree", IndexOutOfBoundsException.class,
                () -> x.compose(0, 0, 2));
        check.thrown("8: below", IndexOutOfBoundsException.class, () -> x.compose(0, 0, -1));
        check.thrown("8: tree ahead of input", IndexOutOfBoundsException.class,
                () -> x.compose(0, 99, 7));
        check.thrown("8: no input", NoSuchElementException.class, () -> x.compose(four, 5, four));
        check.thrown("8: input below", NoSuchElementException.class,
                () -> x.compose(four, -1, four));
        check.thrown("8: input ahead of size", NoSuchElementException.class,
                () -> x.compose(five, 6, four));
        check.thrown("8: 9 operations", UnsupportedOperationException.class,
                () -> x.compose(four, 0, five));
        check.thrown("8: nothing kept", IndexOutOfBoundsException.class, () -> x.inputs(2));
        check.due("8: 8 operations", x.compose(four, 4, four), 2);
        check.dueText("8: 8 operations", Check.tree(x, 2), "00009999000099999");
    }

    private void comparing() {
        Operadry x = new Operadry();
        x.operation(2);
        x.operation(2);
        x.operation(3);
        // By inputs; then by the first way that is unlike, the shorter or the lower one first.
        String[] rising = {"9", "099", "199", "09099", "09199", "19099", "19199", "2999", "00999",
            "01999", "10999", "11999", "0909099", "092999", "0900999", "299099", "290999",
            "0099099", "0090999", "029999", "209999", "0009999"};
        for (int i = 0; i < rising.length; i++) {
            check.due("5: " + rising[i], Check.tree(x, rising[i]), i);
        }
        for (int one = 0; one < rising.length; one++) {
            check.due("9: itself " + rising[one], x.compare(one, one), 0);
            for (int other = one + 1; other < rising.length && other < one + 4; other++) {
                String both = rising[one] + " and " + rising[other];
                check.due("9: " + both, x.compare(one, other), -1);
                check.due("9: turned, " + both, x.compare(other, one), 1);
            }
        }
        check.due("9: first and last", x.compare(0, 21), -1);
        check.thrown("9: no tree", IndexOutOfBoundsException.class, () -> x.compare(-1, 0));
        check.thrown("9: no other", IndexOutOfBoundsException.class, () -> x.compare(0, 22));
        check.thrown("9: far off", IndexOutOfBoundsException.class,
                () -> x.compare(Integer.MIN_VALUE, Integer.MAX_VALUE));
        longTrees();
    }

    private void longTrees() {
        Operadry x = new Operadry();
        for (int i = 0; i < 4; i++) {
            x.operation(3);
        }
        int left = Check.tree(x, "3333333399999999999999999");
        int lower = Check.tree(x, "3333333299999999999999999");
        int middle = Check.tree(x, "3933333339999999999999999");
        check.due("9: of 17 inputs", x.compare(left, lower), 1);
        check.due("9: of 17 inputs, turned", x.compare(lower, left), -1);
        check.due("9: shorter ways", x.compare(middle, lower), -1);
    }
}
