import java.util.NoSuchElementException;

/** Promises 10 to 17, 20, 41 and 43: sums, rules, what they come to, and checks over all sums. */
public final class SumTests {
    private final Check check = new Check();

    private SumTests() {
    }

    public static void main(String[] args) {
        SumTests tests = new SumTests();
        tests.sums();
        tests.adding();
        tests.addingWrong();
        tests.terms();
        tests.rules();
        tests.rulesWrong();
        tests.eightRules();
        tests.rightSidesStay();
        tests.reducing();
        tests.reducingToMany();
        tests.reducingWide();
        tests.firstPlaceFirst();
        tests.nested();
        tests.beyondLong();
        tests.toTheEdgeOfLong();
        tests.normal();
        tests.confluent();
        tests.confluentWide();
        tests.confluentBeyondLong();
        tests.checksums();
        tests.means();
        tests.check.end();
    }

    private static Operadry withPairs(int many) {
        Operadry x = new Operadry();
        for (int i = 0; i < many; i++) {
            x.operation(2);
        }
        return x;
    }

    private void sums() {
        Operadry x = new Operadry();
        for (int i = 0; i < 10; i++) {
            check.due("10: sum", x.sum(), i);
            check.due("10: without terms", x.terms(i), 0);
        }
        check.thrown("10: eleventh", IllegalStateException.class, x::sum);
        check.thrown("10: none was made", IndexOutOfBoundsException.class, () -> x.terms(10));
        check.due("10: sums stay", x.meanTerms() == 0.0, true);
    }

    private void adding() {
        Operadry x = withPairs(1);
        int left = Check.tree(x, "00999");
        int right = Check.tree(x, "09099");
        int pair = Check.tree(x, "099");
        int sum = x.sum();
        check.due("11: first", x.add(sum, right, 5), 5);
        check.due("11: greater one", x.add(sum, left, -99), -99);
        check.due("11: more", x.add(sum, left, -99), -198);
        check.due("11: 0 of a new one", x.add(x.sum(), pair, 0), 0);
        check.due("11: that is no term", x.terms(1), 0);
        check.due("11: 0 of an old one", x.add(sum, right, 0), 5);
        check.dueText("11: terms", Check.terms(x, sum), "[-198 00999, 5 09099]");
        check.due("11: to 0", x.add(sum, right, -5), 0);
        check.dueText("11: one is left", Check.terms(x, sum), "[-198 00999]");
        check.due("11: to 0", x.add(sum, left, 99), -99);
        check.due("11: to 0", x.add(sum, left, 99), 0);
        check.due("12: none is left", x.terms(sum), 0);
        check.due("11: any inputs then", x.add(sum, pair, 7), 7);
        check.dueText("11: other inputs", Check.terms(x, sum), "[7 099]");
        check.due("11: other sum is as it was", x.terms(1), 0);
    }

    private void addingWrong() {
        Operadry x = withPairs(1);
        int left = Check.tree(x, "00999");
        int pair = Check.tree(x, "099");
        int sum = Check.sum(x, "3 00999");
        check.thrown("11: no sum", IndexOutOfBoundsException.class, () -> x.add(1, left, 1));
        check.thrown("11: no tree", IndexOutOfBoundsException.class, () -> x.add(sum, 2, 1));
        check.thrown("11: below", IndexOutOfBoundsException.class, () -> x.add(-1, left, 1));
        check.thrown("11: no tree, first", IndexOutOfBoundsException.class,
                () -> x.add(sum, -1, 100));
        check.thrown("11: 100", IllegalArgumentException.class, () -> x.add(sum, left, 100));
        check.thrown("11: -100", IllegalArgumentException.class, () -> x.add(sum, left, -100));
        check.thrown("11: least", IllegalArgumentException.class,
                () -> x.add(sum, left, Integer.MIN_VALUE));
        check.thrown("11: range, first", IllegalArgumentException.class,
                () -> x.add(sum, pair, 100));
        check.thrown("11: other inputs", UnsupportedOperationException.class,
                () -> x.add(sum, pair, 1));
        check.thrown("11: other inputs, be the amount 0", UnsupportedOperationException.class,
                () -> x.add(sum, pair, 0));
        check.dueText("11: nothing has changed", Check.terms(x, sum), "[3 00999]");
    }

    private void terms() {
        Operadry x = withPairs(2);
        int sum = Check.sum(x, "1 09099", "2 11999", "3 00999", "4 19199", "5 10999");
        check.due("12: terms", x.terms(sum), 5);
        check.dueText("13: from the greatest on", Check.terms(x, sum),
                "[2 11999, 5 10999, 3 00999, 4 19199, 1 09099]");
        check.due("13: first", x.amount(sum, 0), 2);
        check.due("13: last", x.amount(sum, 4), 1);
        check.due("14: sign", x.termSign(sum, 1, 1), 0);
        check.due("14: last sign", x.termSign(sum, 3, 4), 9);
        check.thrown("12: no sum", IndexOutOfBoundsException.class, () -> x.terms(-1));
        check.thrown("12: no sum", IndexOutOfBoundsException.class, () -> x.terms(1));
        check.thrown("13: no sum", IndexOutOfBoundsException.class, () -> x.amount(1, 0));
        check.thrown("13: sum first", IndexOutOfBoundsException.class, () -> x.amount(-1, 9));
        check.thrown("13: no term", NoSuchElementException.class, () -> x.amount(sum, 5));
        check.thrown("13: below", NoSuchElementException.class, () -> x.amount(sum, -1));
        check.thrown("14: no sum", IndexOutOfBoundsException.class, () -> x.termSign(3, 0, 0));
        check.thrown("14: sum first", IndexOutOfBoundsException.class,
                () -> x.termSign(3, -1, -1));
        check.thrown("14: no term", NoSuchElementException.class, () -> x.termSign(sum, 5, 0));
        check.thrown("14: no place", NoSuchElementException.class, () -> x.termSign(sum, 0, 5));
        check.thrown("14: below", NoSuchElementException.class, () -> x.termSign(sum, 0, -1));
    }

    private void rules() {
        Operadry x = withPairs(2);
        int left = Check.tree(x, "00999");
        int other = Check.tree(x, "01999");
        int sum = Check.sum(x, "1 09099", "-2 19199");
        int empty = x.sum();
        check.due("15: first", x.rule(left, sum), 1);
        check.due("15: without terms", x.rule(other, empty), 2);
        check.due("17: left side", x.isNormal(left), false);
        check.due("17: other left side", x.isNormal(other), false);
        check.due("17: right side", x.isNormal(Check.tree(x, "19199")), true);
        check.due("17: other input", x.isNormal(Check.tree(x, "09099")), true);
        check.due("17: other operations", x.isNormal(Check.tree(x, "10999")), true);
        check.due("15: at the right", x.rule(Check.tree(x, "19199"), empty), 3);
        check.due("15: sound", x.isSound(), true);
    }

    private void rulesWrong() {
        Operadry x = withPairs(2);
        x.operation(3);
        int left = Check.tree(x, "00999");
        int sum = Check.sum(x, "1 09099");
        int same = Check.sum(x, "1 00999");
        int greater = Check.sum(x, "1 01999", "1 09099");
        int fewer = Check.sum(x, "1 099");
        int more = Check.sum(x, "1 0099099");
        int single = Check.tree(x, "099");
        int triple = Check.tree(x, "0009999");
        int input = Check.tree(x, "9");
        check.thrown("15: no tree", IndexOutOfBoundsException.class, () -> x.rule(99, sum));
        check.thrown("15: no sum", IndexOutOfBoundsException.class, () -> x.rule(left, 99));
        check.thrown("15: below", IndexOutOfBoundsException.class, () -> x.rule(-1, -1));
        check.thrown("15: no sum, first", IndexOutOfBoundsException.class,
                () -> x.rule(single, -1));
        wrong(x, "one operation", single, sum);
        wrong(x, "three operations", triple, more);
        wrong(x, "an input", input, sum);
        wrong(x, "one operation and no terms", single, x.sum());
        wrong(x, "itself", left, same);
        wrong(x, "a greater one", left, greater);
        wrong(x, "fewer inputs", left, fewer);
        wrong(x, "more inputs", left, more);
        check.due("15: nothing was told", x.normals(3), 8 + 1);
        check.due("15: a wide one with 3 inputs is lower", x.rule(left, Check.sum(x, "4 2999")), 1);
        wrong(x, "a left side already", left, sum);
        wrong(x, "a left side already, without terms", left, x.sum());
        check.due("15: one rule alone", x.normals(3), 8);
    }

    private void wrong(Operadry x, String what, int tree, int sum) {
        check.thrown("15: " + what, UnsupportedOperationException.class, () -> x.rule(tree, sum));
    }

    private void eightRules() {
        Operadry x = withPairs(4);
        int empty = x.sum();
        int told = 0;
        for (int one = 0; one < 2; one++) {
            for (int other = 0; other < 4; other++) {
                int tree = Check.tree(x, one + "9" + other + "99");
                told++;
                check.due("15: told", x.rule(tree, empty), told);
            }
        }
        int ninth = Check.tree(x, "29099");
        int greater = Check.sum(x, "1 29199");
        check.thrown("15: ninth", IllegalStateException.class, () -> x.rule(ninth, empty));
        check.thrown("15: already, first", UnsupportedOperationException.class,
                () -> x.rule(0, empty));
        check.thrown("15: greater, first", UnsupportedOperationException.class,
                () -> x.rule(ninth, greater));
        check.due("17: it is normal", x.isNormal(ninth), true);
        check.due("18: eight are not", x.normals(3), 32 - 8);
    }

    private void rightSidesStay() {
        Operadry x = withPairs(1);
        int left = Check.tree(x, "00999");
        int right = Check.tree(x, "09099");
        int sum = Check.sum(x, "2 09099");
        x.rule(left, sum);
        x.add(sum, right, 40);
        int asked = Check.sum(x, "1 00999");
        check.due("15: the sum as it was then", x.reduce(asked), 1);
        check.dueText("15: the sum as it was then", Check.terms(x, asked), "[2 09099]");
        check.dueText("15: the sum itself", Check.terms(x, sum), "[42 09099]");
        x.add(sum, right, -42);
        x.add(sum, left, 1);
        check.due("16: once more", x.reduce(sum), 1);
        check.dueText("16: once more", Check.terms(x, sum), "[2 09099]");
    }

    private void reducing() {
        Operadry x = withPairs(1);
        int sum = Check.sum(x, "1 000099999", "1 009099099", "-2 000909999");
        check.due("16: without rules", x.reduce(sum), 3);
        check.dueText("16: without rules", Check.terms(x, sum),
                "[1 000099999, -2 000909999, 1 009099099]");
        int left = Check.tree(x, "00999");
        x.rule(left, Check.sum(x, "1 09099"));
        check.due("16: all come to one, whose amounts are 0", x.reduce(sum), 0);
        check.due("16: to nothing", x.terms(sum), 0);
        check.due("11: any inputs then", x.add(sum, left, 6), 6);
        check.due("16: again", x.reduce(sum), 1);
        check.due("16: again", x.reduce(sum), 1);
        check.dueText("16: again", Check.terms(x, sum), "[6 09099]");
        check.thrown("16: no sum", IndexOutOfBoundsException.class, () -> x.reduce(-1));
        check.thrown("16: no sum", IndexOutOfBoundsException.class, () -> x.reduce(2));
        check.due("16: a sum without terms", x.reduce(x.sum()), 0);
    }

    private void reducingToMany() {
        Operadry x = withPairs(2);
        int left = Check.tree(x, "10999");
        x.rule(left, Check.sum(x, "1 00999", "-3 01999", "2 19099"));
        int sum = Check.sum(x, "2 101099999");
        x.reduce(sum);
        Model model = new Model();
        model.operation(2);
        model.operation(2);
        int[] trees = {modelTree(model, "10999"), modelTree(model, "00999"),
            modelTree(model, "01999"), modelTree(model, "19099"), modelTree(model, "101099999")};
        int right = model.sum();
        model.add(right, trees[1], 1);
        model.add(right, trees[2], -3);
        model.add(right, trees[3], 2);
        model.rule(trees[0], right);
        int asked = model.sum();
        model.add(asked, trees[4], 2);
        model.reduce(asked);
        check.due("16: as many as in the model", x.terms(sum), model.terms(asked));
        check.due("41: as in the model", x.checksum(), model.checksum());
    }

    private static int modelTree(Model model, String digits) {
        model.wipe();
        for (int i = 0; i < digits.length(); i++) {
            model.type(digits.charAt(i) - '0');
        }
        return model.tree();
    }

    /** A wide operation comes to be two narrow ones, up to 16 of these in one tree. */
    private void reducingWide() {
        Operadry x = new Operadry();
        x.operation(2);
        x.operation(3);
        x.rule(Check.tree(x, "1199999"), Check.sum(x, "1 009099099"));
        int sum = Check.sum(x, "3 1111111199999999999999999");
        check.due("16: 17 inputs", x.reduce(sum), 1);
        StringBuilder row = new StringBuilder();
        for (int place = 0; place < 33; place++) {
            row.append(x.termSign(sum, 0, place));
        }
        check.dueText("16: with 16 operations", row.toString(),
                "009099099".replaceFirst("9", "009099099").replaceFirst("9", "009099099")
                        .replaceFirst("9", "009099099"));
        check.thrown("14: behind them", NoSuchElementException.class,
                () -> x.termSign(sum, 0, 33));
        check.due("13: amount", x.amount(sum, 0), 3);
    }

    /** Of several places in one tree the one whose upper operation stands first is taken. */
    private void firstPlaceFirst() {
        Operadry x = withPairs(2);
        x.rule(Check.tree(x, "11999"), Check.sum(x, "1 00999"));
        int chain = Check.sum(x, "1 1119999");
        x.reduce(chain);
        check.dueText("16: at the root", Check.terms(x, chain), "[1 0019999]");
        Operadry y = withPairs(2);
        y.rule(Check.tree(y, "10999"), Check.sum(y, "1 01999"));
        y.rule(Check.tree(y, "19099"), Check.sum(y, "1 09199"));
        int fork = Check.sum(y, "1 1099099");
        y.reduce(fork);
        check.dueText("16: from the left", Check.terms(y, fork), "[1 0199099]");
        check.due("20: not confluent", y.isConfluent(), false);
    }

    /** What stands at the inputs of both operations keeps its order. */
    private void nested() {
        Operadry x = new Operadry();
        x.operation(2);
        x.operation(3);
        x.operation(2);
        x.rule(Check.tree(x, "20999"), Check.sum(x, "5 1999", "7 09099"));
        int sum = Check.sum(x, "2 2029919999");
        x.reduce(sum);
        check.dueText("16: pieces in order", Check.terms(x, sum),
                "[10 129919999, 14 0299019999]");
    }

    /** Pairs of operations come to lower ones with 64 times the amount, in nine steps in all. */
    private static Operadry withLadder() {
        Operadry x = withPairs(4);
        x.rule(Check.tree(x, "39399"), Check.sum(x, "64 29299"));
        x.rule(Check.tree(x, "29299"), Check.sum(x, "64 19199"));
        x.rule(Check.tree(x, "19199"), Check.sum(x, "64 09099"));
        return x;
    }

    private static final String HIGH = "3939393939399";
    private static final String LOW = "0909090909099";

    private void beyondLong() {
        Operadry x = withLadder();
        int high = Check.tree(x, HIGH);
        int low = Check.tree(x, LOW);
        int sum = x.sum();
        Made.addMany(x, sum, high, -512);
        check.due("16: the least long", x.reduce(sum), 1);
        check.due("16: the least long", x.amount(sum, 0), Long.MIN_VALUE);
        check.dueText("16: the tree", Check.terms(x, sum), "[" + Long.MIN_VALUE + " " + LOW + "]");
        check.thrown("11: below a long", ArithmeticException.class, () -> x.add(sum, low, -1));
        check.thrown("11: range, first", IllegalArgumentException.class,
                () -> x.add(sum, low, -100));
        check.thrown("11: inputs, first", UnsupportedOperationException.class,
                () -> x.add(sum, 0, -1));
        check.due("11: nothing has changed", x.add(sum, low, 0), Long.MIN_VALUE);
        int other = x.sum();
        Made.addMany(x, other, high, 512);
        x.add(other, low, 5);
        long before = x.checksum();
        check.thrown("16: beyond a long", ArithmeticException.class, () -> x.reduce(other));
        check.due("16: nothing has changed", x.checksum(), before);
        check.dueText("16: nothing has changed", Check.terms(x, other),
                "[512 " + HIGH + ", 5 " + LOW + "]");
        check.due("16: the first sum as it was", x.amount(sum, 0), Long.MIN_VALUE);
        x.add(other, high, -99);
        check.due("16: then it can be", x.reduce(other), 1);
        check.due("16: then it can be", x.amount(other, 0), (413L << 54) + 5);
    }

    private void toTheEdgeOfLong() {
        Operadry x = withLadder();
        int high = Check.tree(x, HIGH);
        int low = Check.tree(x, LOW);
        int sum = x.sum();
        x.add(sum, high, 1);
        x.reduce(sum);
        check.due("16: nine steps", x.amount(sum, 0), 1L << 54);
        Made.addMany(x, sum, high, 511);
        check.thrown("16: one too much", ArithmeticException.class, () -> x.reduce(sum));
        check.due("16: nothing has changed", x.terms(sum), 2);
        check.due("16: nothing has changed", x.amount(sum, 0), 511);
        check.due("16: nothing has changed", x.amount(sum, 1), 1L << 54);
        x.add(sum, low, -1);
        check.due("16: just as much", x.reduce(sum), 1);
        check.due("16: the greatest long", x.amount(sum, 0), Long.MAX_VALUE);
        check.thrown("11: beyond a long", ArithmeticException.class, () -> x.add(sum, low, 1));
        check.thrown("11: far beyond a long", ArithmeticException.class,
                () -> x.add(sum, low, 99));
        check.due("11: nothing has changed", x.add(sum, low, 0), Long.MAX_VALUE);
        check.due("11: down again", x.add(sum, low, -99), Long.MAX_VALUE - 99);
        check.due("11: and up", x.add(sum, low, 99), Long.MAX_VALUE);
    }

    private void normal() {
        Operadry x = new Operadry();
        x.operation(2);
        x.operation(3);
        int left = Check.tree(x, "190999");
        check.due("17: without rules", x.isNormal(left), true);
        x.rule(left, x.sum());
        check.due("17: left side itself", x.isNormal(left), false);
        check.due("17: the input", x.isNormal(Check.tree(x, "9")), true);
        check.due("17: one operation", x.isNormal(Check.tree(x, "1999")), true);
        check.due("17: at another input", x.isNormal(Check.tree(x, "109999")), true);
        check.due("17: at the last input", x.isNormal(Check.tree(x, "199099")), true);
        check.due("17: turned", x.isNormal(Check.tree(x, "091999")), true);
        check.due("17: above", x.isNormal(Check.tree(x, "09190999")), false);
        check.due("17: further up", x.isNormal(Check.tree(x, "0901909999")), false);
        check.due("17: wide at the middle", x.isNormal(Check.tree(x, "1919999")), true);
        check.thrown("17: no tree", IndexOutOfBoundsException.class,
                () -> Check.bit(x.isNormal(-1)));
        check.thrown("17: no tree", IndexOutOfBoundsException.class,
                () -> Check.bit(x.isNormal(99)));
    }

    private void confluent() {
        check.due("20: without rules", withPairs(2).isConfluent(), true);
        check.due("20: to the right", confluentWith("00999", "1 09099"), true);
        check.due("20: to the right, twice", confluentWith("00999", "2 09099"), false);
        check.due("20: to the right, turned", confluentWith("00999", "-1 09099"), false);
        check.due("20: to nothing", confluentWith("00999"), true);
        check.due("20: one place in each tree", confluentWith("01999", "7 09199"), true);
        Operadry x = withPairs(2);
        x.rule(Check.tree(x, "10999"), Check.sum(x, "1 01999"));
        check.due("20: one rule", x.isConfluent(), true);
        x.rule(Check.tree(x, "19099"), x.sum());
        check.due("20: two places at one operation", x.isConfluent(), false);
        Operadry y = withPairs(2);
        y.rule(Check.tree(y, "10999"), y.sum());
        check.due("20: to nothing", y.isConfluent(), true);
        y.rule(Check.tree(y, "19099"), y.sum());
        check.due("20: both to nothing", y.isConfluent(), true);
        y.rule(Check.tree(y, "01999"), Check.sum(y, "1 00999"));
        check.due("20: one above the other", y.isConfluent(), false);
    }

    /** A wide operation is two narrow ones that stand to the right. */
    private void confluentWide() {
        for (int changed = 0; changed < 5; changed++) {
            Operadry x = new Operadry();
            x.operation(2);
            x.operation(3);
            String[] lefts = {"109999", "190999", "199099", "00999"};
            String[] rights = {"091999", "091999", "091999", "09099"};
            for (int rule = 0; rule < 4; rule++) {
                int amount = rule == changed ? 2 : 1;
                x.rule(Check.tree(x, lefts[rule]), Check.sum(x, amount + " " + rights[rule]));
            }
            check.due("20: four places at a wide one, changed " + changed, x.isConfluent(),
                    changed == 4);
        }
        check.due("20: first and last input", wideWith("109999", "199099"), false);
        check.due("20: first and middle input", wideWith("109999", "190999"), false);
        check.due("20: middle and last input", wideWith("190999", "199099"), false);
        check.due("20: wide on wide, one input", wideWith("1199999", "00999"), true);
        check.due("20: wide on wide, two inputs", wideWith("1199999", "1991999"), false);
    }

    /** A rule to nothing, and one to a lower tree. */
    private static boolean wideWith(String nothing, String lower) {
        Operadry x = new Operadry();
        x.operation(2);
        x.operation(3);
        x.rule(Check.tree(x, nothing), x.sum());
        int inputs = lower.replaceAll("[^9]", "").length();
        String right = inputs == 3 ? "09099" : inputs == 4 ? "091999" : "090909099";
        x.rule(Check.tree(x, lower), Check.sum(x, "1 " + right));
        return x.isConfluent();
    }

    private static boolean confluentWith(String left, String... right) {
        Operadry x = withPairs(2);
        x.rule(Check.tree(x, left), Check.sum(x, right));
        return x.isConfluent();
    }

    /** Each pair of operations at the right comes to the next lower one, in many steps. */
    private void confluentBeyondLong() {
        String[] pairs = {"33", "32", "31", "30", "23", "22", "21", "20", "13"};
        Operadry x = withPairs(4);
        for (int i = 0; i + 1 < pairs.length; i++) {
            int left = Check.tree(x, pairs[i].charAt(0) + "9" + pairs[i].charAt(1) + "99");
            int right = Check.sum(x, "99 " + pairs[i + 1].charAt(0) + "9" + pairs[i + 1].charAt(1)
                    + "99");
            check.due("15: told", x.rule(left, right), i + 1);
        }
        long before = x.checksum();
        check.thrown("20: beyond a long", ArithmeticException.class,
                () -> Check.bit(x.isConfluent()));
        check.due("20: nothing has changed", x.checksum(), before);
        check.due("20: nothing has changed", x.normals(3), 32 - 8);
        check.thrown("20: again", ArithmeticException.class,
                () -> Check.bit(x.isConfluent()));
    }

    private void checksums() {
        Operadry x = withPairs(1);
        check.due("41: without sums", x.checksum(), 7);
        int sum = x.sum();
        check.due("41: without terms", x.checksum(), 7);
        x.add(sum, Check.tree(x, "9"), 3);
        check.due("41: one input", x.checksum(), (7 * 31 + 3) * 31 + 9);
        Check.sum(x, "-4 099");
        long want = (7 * 31 + 3) * 31 + 9;
        want = ((want * 31 - 4) * 31 * 31 + 9) * 31 + 9;
        check.due("41: another sum", x.checksum(), want);
        Operadry y = withPairs(1);
        Check.sum(y, "1 09099", "-2 00999");
        long check2 = 7;
        for (int number : new int[] {-2, 0, 0, 9, 9, 9, 1, 0, 9, 0, 9, 9}) {
            check2 = 31 * check2 + number;
        }
        check.due("41: from the greatest on", y.checksum(), check2);
    }

    private void means() {
        Operadry x = withPairs(1);
        check.thrown("43: without sums", ArithmeticException.class,
                () -> x.meanTerms() == 0.0 ? 1 : 0);
        x.sum();
        check.due("43: without terms", x.meanTerms() == 0.0, true);
        Check.sum(x, "1 09099", "-2 00999");
        check.due("43: two of two", x.meanTerms() == 1.0, true);
        x.sum();
        check.due("43: two of three", x.meanTerms() == 2.0 / 3.0, true);
        Check.sum(x, "1 9");
        check.due("43: three of four", x.meanTerms() == 0.75, true);
    }
}
