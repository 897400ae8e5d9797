import java.util.NoSuchElementException;

/** Promises 1 to 9, where they end: the last that is taken or kept, and the first that is not. */
public final class TreeEdgeTests {
    private final Check check = new Check();

    private TreeEdgeTests() {
    }

    public static void main(String[] args) {
        TreeEdgeTests tests = new TreeEdgeTests();
        tests.nothingAtFirst();
        tests.lastCall();
        tests.inputsOfOperations();
        tests.fourOperations();
        tests.signsFrom0To9();
        tests.fortySigns();
        tests.wipesNoneAndAll();
        tests.rowsThatEndTooSoonOrTooLate();
        tests.operationsThatThereAre();
        tests.shortestRow();
        tests.eightOperations();
        tests.eightOperationsPutTogether();
        tests.fortyTrees();
        tests.fortyTreesPutTogether();
        tests.rowStays();
        tests.inputs();
        tests.firstAndLastSign();
        tests.firstAndLastInput();
        tests.fewerInputsAreLower();
        tests.shorterWaysAreLower();
        tests.lowerOperationsAreLower();
        tests.likeOnesHaveOneNumber();
        tests.check.end();
    }

    private void refuse(String what, Class<? extends RuntimeException> kind, Check.Call call) {
        check.thrown(what, kind, call);
    }

    private void nothingAtFirst() {
        Operadry x = new Operadry();
        check.due("1: no operation, all trees are the input", x.normals(1), 1);
        for (int inputs = 2; inputs <= 10; inputs++) {
            check.due("1: no operation", x.normals(inputs), 0);
        }
        check.due("1: a method of one stage", x.step(0, 0, 1, 1), 1);
        refuse("1: a method of one stage", IndexOutOfBoundsException.class,
                () -> x.step(0, 1, 1, 1));
        check.due("1: a method of one stage", x.stages(1), 1);
        Operadry y = new Operadry();
        check.due("1: its fractions are 0", y.step(0, 0, 0, 1), 0);
        check.due("1: its fractions are 0", y.last(0, 0, 1), 0);
        check.due("1: no signs", y.wipe(), 0);
    }

    /** An object is used for at most 512 calls. */
    private void lastCall() {
        Operadry x = new Operadry();
        for (int call = 1; call <= 509; call++) {
            if (call % 2 == 1) {
                check.due("3: call " + call, x.type(9), 1);
            } else {
                check.due("4: call " + call, x.wipe(), 1);
            }
        }
        check.due("5: call 510", x.tree(), 0);
        check.due("4: call 511", x.wipe(), 1);
        check.due("6: call 512", x.inputs(0), 1);
    }

    private void inputsOfOperations() {
        Operadry x = new Operadry();
        refuse("2: 1 input", IllegalArgumentException.class, () -> x.operation(1));
        check.due("2: 2 inputs", x.operation(2), 0);
        check.due("2: 3 inputs", x.operation(3), 1);
        refuse("2: 4 inputs", IllegalArgumentException.class, () -> x.operation(4));
        check.due("2: refused ones are not counted", x.operation(3), 2);
    }

    private void fourOperations() {
        Operadry x = Made.with(2, 2, 2);
        check.due("2: a fourth", x.operation(2), 3);
        refuse("2: a fifth", IllegalStateException.class, () -> x.operation(2));
        check.due("2: there are four", x.normals(2), 4);
    }

    private void signsFrom0To9() {
        Operadry x = new Operadry();
        refuse("3: -1", IllegalArgumentException.class, () -> x.type(-1));
        for (int sign = 0; sign <= 9; sign++) {
            check.due("3: sign " + sign, x.type(sign), sign + 1);
        }
        refuse("3: 10", IllegalArgumentException.class, () -> x.type(10));
        check.due("4: refused ones are not typed", x.wipe(), 10);
    }

    private void fortySigns() {
        Operadry x = new Operadry();
        Check.row(x, "9".repeat(39));
        check.due("3: a 40th", x.type(0), 40);
        refuse("3: a 41st", IllegalStateException.class, () -> x.type(0));
        check.due("4: 40", x.wipe(), 40);
        check.due("3: a first one again", x.type(0), 1);
    }

    private void wipesNoneAndAll() {
        Operadry x = new Operadry();
        check.due("4: none", x.wipe(), 0);
        x.type(9);
        check.due("4: one", x.wipe(), 1);
        check.due("4: none again", x.wipe(), 0);
        Check.row(x, "1".repeat(40));
        check.due("4: all", x.wipe(), 40);
        check.due("4: none again", x.wipe(), 0);
    }

    private void notKept(Operadry x, String row) {
        Check.row(x, row);
        refuse("5: " + row, UnsupportedOperationException.class, x::tree);
    }

    private void rowsThatEndTooSoonOrTooLate() {
        Operadry x = Made.with(2, 3);
        notKept(x, "09");
        check.due("5: two inputs", Check.tree(x, "099"), 0);
        notKept(x, "0999");
        notKept(x, "199");
        check.due("5: three inputs", Check.tree(x, "1999"), 1);
        notKept(x, "19999");
        notKept(x, "0919");
        notKept(x, "0919999");
        check.due("5: one upon the other", Check.tree(x, "091999"), 2);
        notKept(x, "099099");
    }

    private void operationsThatThereAre() {
        Operadry x = new Operadry();
        for (int operation = 0; operation < 4; operation++) {
            notKept(x, operation + "99");
            x.operation(2);
            check.due("5: operation " + operation, Check.tree(x, operation + "99"), operation);
        }
        for (int sign = 4; sign < 9; sign++) {
            notKept(x, sign + "99");
            notKept(x, "09" + sign);
        }
    }

    private void shortestRow() {
        Operadry x = new Operadry();
        notKept(x, "");
        check.due("5: an input", Check.tree(x, "9"), 0);
        notKept(x, "99");
        check.due("6: its input", x.inputs(0), 1);
        check.due("7: its sign", x.signAt(0, 0), 9);
    }

    private void eightOperations() {
        Operadry x = Made.with(2, 3);
        check.due("5: 8 narrow", Check.tree(x, "0".repeat(8) + "9".repeat(9)), 0);
        notKept(x, "0".repeat(9) + "9".repeat(10));
        check.due("5: 8 narrow to the right", Check.tree(x, "09".repeat(8) + "9"), 1);
        notKept(x, "09".repeat(9) + "9");
        check.due("5: 8 wide", Check.tree(x, "1".repeat(8) + "9".repeat(17)), 2);
        notKept(x, "1".repeat(9) + "9".repeat(19));
        notKept(x, "1".repeat(13) + "9".repeat(27));
        notKept(x, "0".repeat(40));
        check.due("6: 8 narrow", x.inputs(0), 9);
        check.due("6: 8 wide", x.inputs(2), 17);
    }

    private void eightOperationsPutTogether() {
        Operadry x = Made.with(2, 3);
        int seven = Check.tree(x, "1".repeat(7) + "9".repeat(15));
        int one = Check.tree(x, "099");
        int two = Check.tree(x, "00999");
        int input = Check.tree(x, "9");
        check.due("8: 8 operations", x.compose(seven, 14, one), 4);
        check.due("8: 8 operations, turned", x.compose(one, 1, seven), 5);
        refuse("8: 9 operations", UnsupportedOperationException.class,
                () -> x.compose(seven, 14, two));
        refuse("8: 9 operations, turned", UnsupportedOperationException.class,
                () -> x.compose(two, 0, seven));
        refuse("8: one on 8", UnsupportedOperationException.class, () -> x.compose(4, 0, one));
        check.due("8: an input on 8", x.compose(4, 15, input), 4);
        check.due("8: 8 on an input", x.compose(input, 0, 4), 4);
    }

    private void fortyTrees() {
        Operadry x = Made.with(2, 2, 2, 2);
        Made.keepFortyTrees(x);
        check.due("6: the 40th", x.inputs(39), 6);
        refuse("6: no 41st", IndexOutOfBoundsException.class, () -> x.inputs(40));
        Check.row(x, "0009999");
        refuse("5: a 41st", IllegalStateException.class, x::tree);
        refuse("6: no 41st then", IndexOutOfBoundsException.class, () -> x.inputs(40));
        check.due("5: like the first, when there are 40", Check.tree(x, "9"), 0);
        check.due("5: like the last, when there are 40", Check.tree(x, "00000999999"), 39);
    }

    private void fortyTreesPutTogether() {
        Operadry x = Made.with(2, 2, 2, 2);
        Made.keepFortyTrees(x);
        refuse("8: a 41st", IllegalStateException.class, () -> x.compose(1, 1, 5));
        refuse("6: no 41st then", IndexOutOfBoundsException.class, () -> x.inputs(40));
        check.due("8: like the last, when there are 40", x.compose(Made.FOUR, 0, 1), 39);
        check.due("8: like the first, when there are 40", x.compose(0, 0, 0), 0);
        Operadry y = Made.with(2, 2);
        for (int kept = 0; kept <= 8; kept++) {
            Check.tree(y, "0".repeat(kept) + "9".repeat(kept + 1));
        }
        int other = Check.tree(y, "199");
        int last = other;
        for (int tree = 1; tree <= 7; tree++) {
            for (int input = 0; input <= tree && last < 39; input++) {
                check.due("8: the next number", y.compose(tree, input, other), ++last);
            }
        }
        check.due("6: the 40th", y.inputs(39), 9);
        refuse("8: a 41st", IllegalStateException.class, () -> y.compose(7, 7, other));
        check.due("8: like one, when there are 40", y.compose(7, 0, 1), 8);
    }

    /** A row that is kept stays, and is typed on. */
    private void rowStays() {
        Operadry x = Made.with(2);
        x.type(0);
        check.due("22: kept", x.shrub(), 0);
        check.due("34: kept", x.word(), 0);
        check.due("3: the row has stayed", x.type(9), 2);
        check.due("3: the row has stayed", x.type(9), 3);
        check.due("5: kept", x.tree(), 0);
        check.due("5: kept once more", x.tree(), 0);
        check.due("3: the row has stayed", x.type(9), 4);
        refuse("5: not kept", UnsupportedOperationException.class, x::tree);
        check.due("4: the row has stayed", x.wipe(), 4);
    }

    private void inputs() {
        Operadry x = Made.with(2);
        refuse("6: no tree", IndexOutOfBoundsException.class, () -> x.inputs(0));
        Check.tree(x, "9");
        Check.tree(x, "099");
        refuse("6: -1", IndexOutOfBoundsException.class, () -> x.inputs(-1));
        check.due("6: first", x.inputs(0), 1);
        check.due("6: last", x.inputs(1), 2);
        refuse("6: behind", IndexOutOfBoundsException.class, () -> x.inputs(2));
        refuse("9: one behind", IndexOutOfBoundsException.class, () -> x.compare(2, 0));
        refuse("9: other behind", IndexOutOfBoundsException.class, () -> x.compare(0, 2));
        refuse("9: one before", IndexOutOfBoundsException.class, () -> x.compare(-1, 0));
        refuse("9: other before", IndexOutOfBoundsException.class, () -> x.compare(0, -1));
        check.due("9: first and last", x.compare(0, 1), -1);
        check.due("9: last and first", x.compare(1, 0), 1);
    }

    private void firstAndLastSign() {
        Operadry x = Made.with(2, 3);
        int longest = Check.tree(x, "1".repeat(8) + "9".repeat(17));
        int short5 = Check.tree(x, "00999");
        refuse("7: -1", NoSuchElementException.class, () -> x.signAt(longest, -1));
        check.due("7: first", x.signAt(longest, 0), 1);
        check.due("7: last operation", x.signAt(longest, 7), 1);
        check.due("7: first input", x.signAt(longest, 8), 9);
        check.due("7: last", x.signAt(longest, 24), 9);
        refuse("7: behind the longest", NoSuchElementException.class,
                () -> x.signAt(longest, 25));
        check.due("7: last of another one", x.signAt(short5, 4), 9);
        refuse("7: behind another one", NoSuchElementException.class, () -> x.signAt(short5, 5));
    }

    private void firstAndLastInput() {
        Operadry x = Made.with(2, 2);
        int left = Check.tree(x, "00999");
        int pair = Check.tree(x, "199");
        refuse("8: -1", NoSuchElementException.class, () -> x.compose(left, -1, pair));
        check.dueText("8: first", Check.tree(x, x.compose(left, 0, pair)), "0019999");
        check.dueText("8: middle", Check.tree(x, x.compose(left, 1, pair)), "0091999");
        check.dueText("8: last", Check.tree(x, x.compose(left, 2, pair)), "0099199");
        refuse("8: behind", NoSuchElementException.class, () -> x.compose(left, 3, pair));
    }

    private void rising(Operadry x, String lower, String greater) {
        int one = Check.tree(x, lower);
        int other = Check.tree(x, greater);
        check.due("9: " + lower + " is lower than " + greater, x.compare(one, other), -1);
        check.due("9: " + greater + " is greater than " + lower, x.compare(other, one), 1);
    }

    /** Fewer inputs count more than ways, and by one input already. */
    private void fewerInputsAreLower() {
        Operadry x = Made.with(2, 3, 2);
        rising(x, "9", "099");
        rising(x, "299", "1999");
        rising(x, "299", "09099");
        rising(x, "22999", "0909099");
        rising(x, "1999", "0909099");
        rising(x, "2".repeat(8) + "9".repeat(9), "199".repeat(4) + "099");
        rising(x, "2" + "1".repeat(7) + "9".repeat(16), "199".repeat(7) + "1999");
    }

    /** The first two ways that are unlike: the shorter one is lower, whatever its operations. */
    private void shorterWaysAreLower() {
        Operadry x = Made.with(2, 3, 2);
        rising(x, "29299", "00999");
        rising(x, "1999", "00999");
        rising(x, "0929299", "0900999");
        rising(x, "0099099", "0090999");
        rising(x, "2922999", "0009999");
        rising(x, "29".repeat(7) + "299", "0".repeat(8) + "9".repeat(9));
    }

    /** Ways of like lengths: the lower operation is lower where they first differ. */
    private void lowerOperationsAreLower() {
        Operadry x = Made.with(2, 2, 2, 2);
        rising(x, "099", "199");
        rising(x, "299", "399");
        rising(x, "03999", "10999");
        rising(x, "00999", "01999");
        rising(x, "09299", "09399");
        rising(x, "39099", "39199");
        rising(x, "0099399", "0199099");
        rising(x, "0399099", "0399199");
        rising(x, "0".repeat(7) + "2" + "9".repeat(9), "0".repeat(7) + "3" + "9".repeat(9));
        rising(x, "09".repeat(7) + "299", "09".repeat(7) + "399");
    }

    private void likeOnesHaveOneNumber() {
        Operadry x = Made.with(2, 2);
        int left = Check.tree(x, "01999");
        check.due("5: typed again", Check.tree(x, "01999"), left);
        check.due("5: another one", Check.tree(x, "10999"), left + 1);
        int one = Check.tree(x, "099");
        int other = Check.tree(x, "199");
        check.due("8: put together", x.compose(one, 0, other), left);
        check.due("8: turned", x.compose(other, 0, one), left + 1);
        check.due("9: alike", x.compare(left, left), 0);
        check.due("9: the input with itself", x.compare(Check.tree(x, "9"), 4), 0);
    }
}
