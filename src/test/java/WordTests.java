import java.util.NoSuchElementException;

/** Promises 34 to 39: words, their factors, brackets and shuffles, and how many Lyndon words. */
public final class WordTests {
    private final Check check = new Check();

    private WordTests() {
    }

    public static void main(String[] args) {
        WordTests tests = new WordTests();
        tests.keeping();
        tests.wrongRows();
        tests.twelve();
        tests.factors();
        tests.wrongFactors();
        tests.brackets();
        tests.longBrackets();
        tests.wrongBrackets();
        tests.shuffles();
        tests.wrongShuffles();
        tests.lyndons();
        tests.check.end();
    }

    private void keeping() {
        Operadry x = new Operadry();
        check.due("34: first", Check.word(x, "0"), 0);
        check.due("34: second", Check.word(x, "00"), 1);
        check.due("34: like one", Check.word(x, "0"), 0);
        check.due("34: third", Check.word(x, "21012102"), 2);
        check.due("34: turned", Check.word(x, "20121012"), 3);
        check.due("34: again, as the row stays", x.word(), 3);
        check.due("34: the row stays", x.wipe(), 8);
    }

    private void wrongRows() {
        Operadry x = new Operadry();
        for (String row : new String[] {"", "3", "9", "012012013", "000000000", "0120120", "00003"}) {
            boolean isWord = row.equals("0120120");
            Check.row(x, row);
            if (isWord) {
                check.due("34: " + row, x.word(), 0);
            } else {
                check.thrown("34: " + row, UnsupportedOperationException.class, x::word);
            }
            check.due("34: the row stays " + row, x.wipe(), row.length());
        }
        check.thrown("34: one alone was kept", IndexOutOfBoundsException.class,
                () -> x.factors(1));
    }

    private void twelve() {
        Operadry x = new Operadry();
        String[] rows = {"0", "1", "2", "00", "01", "02", "10", "11", "12", "20", "21", "22"};
        for (int i = 0; i < rows.length; i++) {
            check.due("34: " + rows[i], Check.word(x, rows[i]), i);
        }
        Check.row(x, "000");
        check.thrown("34: thirteenth", IllegalStateException.class, x::word);
        check.thrown("34: none was kept", IndexOutOfBoundsException.class, () -> x.factors(12));
        Check.row(x, "03");
        check.thrown("34: no word, first", UnsupportedOperationException.class, x::word);
        check.due("34: like one", Check.word(x, "22"), 11);
    }

    private void factors() {
        factorsOf("0", 1);
        factorsOf("01", 2);
        factorsOf("10", 1, 1);
        factorsOf("00000000", 1, 1, 1, 1, 1, 1, 1, 1);
        factorsOf("01201201", 3, 3, 2);
        factorsOf("21021021", 1, 1, 3, 3);
        factorsOf("00100101", 8);
        factorsOf("01010010", 2, 2, 3, 1);
        factorsOf("22110012", 1, 1, 1, 1, 4);
        factorsOf("00120011", 4, 4);
        factorsOf("1020102", 1, 2, 4);
    }

    private void factorsOf(String row, int... lengths) {
        Operadry x = new Operadry();
        Check.word(x, "2");
        int word = Check.word(x, row);
        check.due("35: " + row, x.factors(word), lengths.length);
        for (int i = 0; i < lengths.length; i++) {
            check.due("36: " + row + ", " + i, x.factor(word, i), lengths[i]);
        }
        check.thrown("36: behind " + row, NoSuchElementException.class,
                () -> x.factor(word, lengths.length));
    }

    private void wrongFactors() {
        Operadry x = new Operadry();
        Check.word(x, "0101");
        for (int word : new int[] {-1, 1, 12, Integer.MIN_VALUE, Integer.MAX_VALUE}) {
            check.thrown("35: " + word, IndexOutOfBoundsException.class, () -> x.factors(word));
            check.thrown("36: " + word, IndexOutOfBoundsException.class,
                    () -> x.factor(word, 0));
            check.thrown("36: word first " + word, IndexOutOfBoundsException.class,
                    () -> x.factor(word, -1));
        }
        check.thrown("36: before", NoSuchElementException.class, () -> x.factor(0, -1));
        check.thrown("36: far before", NoSuchElementException.class,
                () -> x.factor(0, Integer.MIN_VALUE));
        check.thrown("36: far behind", NoSuchElementException.class,
                () -> x.factor(0, Integer.MAX_VALUE));
    }

    private void brackets() {
        Operadry x = new Operadry();
        int zero = Check.word(x, "0");
        int one = Check.word(x, "1");
        int rise = Check.word(x, "01");
        int fall = Check.word(x, "10");
        check.due("37: a letter", x.bracketed(zero, zero), 1);
        check.due("37: another letter", x.bracketed(zero, one), 0);
        check.due("37: two letters", x.bracketed(rise, rise), 1);
        check.due("37: two letters, turned", x.bracketed(rise, fall), -1);
        check.due("37: too short", x.bracketed(rise, zero), 0);
        check.due("37: too long", x.bracketed(zero, rise), 0);
        bracket(x, "011", "011", 1, "101", -2, "110", 1);
        Operadry y = new Operadry();
        bracket(y, "001", "001", 1, "010", -2, "100", 1, "011", 0);
        bracket(y, "012", "012", 1, "021", -1, "120", -1, "210", 1, "102", 0, "201", 0);
        Operadry z = new Operadry();
        bracket(z, "021", "021", 1, "201", -1, "102", -1, "120", 1, "012", 0, "210", 0);
    }

    /** A Lyndon word, and then words with their amounts in its bracket. */
    private void bracket(Operadry x, String row, Object... amounts) {
        int word = Check.word(x, row);
        for (int i = 0; i < amounts.length; i += 2) {
            int other = Check.word(x, (String) amounts[i]);
            check.due("37: " + row + ", " + amounts[i], x.bracketed(word, other),
                    (Integer) amounts[i + 1]);
        }
    }

    private void longBrackets() {
        Operadry x = new Operadry();
        // Each letter 0 goes to either side of the bracket ahead of it.
        bracket(x, "00000001", "00000001", 1, "10000000", -1, "00010000", 35, "00001000", -35,
                "01000000", 7, "00100000", -21, "00000010", -7, "00000100", 21);
        Operadry y = new Operadry();
        // The longest end is 01, ahead of which stands 001.
        bracket(y, "00101", "00101", 1, "01001", -3, "10001", 2, "00110", -1, "01010", 4);
    }

    private void wrongBrackets() {
        Operadry x = new Operadry();
        Check.word(x, "01");
        Check.word(x, "10");
        Check.word(x, "00");
        Check.word(x, "0101");
        for (int word = 1; word < 4; word++) {
            int asked = word;
            check.thrown("37: no Lyndon word " + word, UnsupportedOperationException.class,
                    () -> x.bracketed(asked, 0));
            check.thrown("37: no Lyndon word, and itself " + word,
                    UnsupportedOperationException.class, () -> x.bracketed(asked, asked));
            check.thrown("37: no other word, first " + word, IndexOutOfBoundsException.class,
                    () -> x.bracketed(asked, 4));
        }
        check.thrown("37: no word", IndexOutOfBoundsException.class, () -> x.bracketed(4, 0));
        check.thrown("37: no word", IndexOutOfBoundsException.class, () -> x.bracketed(-1, 0));
        check.thrown("37: no word", IndexOutOfBoundsException.class, () -> x.bracketed(0, -1));
        check.due("37: other is no Lyndon word", x.bracketed(0, 1), -1);
    }

    private void shuffles() {
        Operadry x = new Operadry();
        int zero = Check.word(x, "0");
        int zeros = Check.word(x, "00");
        int rise = Check.word(x, "01");
        int fall = Check.word(x, "10");
        check.due("38: like letters", x.shuffles(zero, zero, zeros), 2);
        check.due("38: one and two", x.shuffles(zero, zeros, Check.word(x, "000")), 3);
        check.due("38: two of four", x.shuffles(zeros, zeros, Check.word(x, "0000")), 6);
        check.due("38: with itself", x.shuffles(rise, rise, Check.word(x, "0011")), 4);
        check.due("38: one behind the other", x.shuffles(rise, rise, Check.word(x, "0101")), 2);
        check.due("38: both ways", x.shuffles(rise, fall, Check.word(x, "0110")), 2);
        check.due("38: both ways", x.shuffles(fall, rise, Check.word(x, "0110")), 2);
        check.due("38: wrong order", x.shuffles(rise, rise, Check.word(x, "1001")), 0);
        check.due("38: too long", x.shuffles(zero, zero, Check.word(x, "000")), 0);
        check.due("38: too short", x.shuffles(rise, zero, rise), 0);
        check.due("38: other letters", x.shuffles(zero, zero, rise), 0);
        check.due("38: the whole and none", x.shuffles(rise, rise, rise), 0);
        Operadry y = new Operadry();
        int four = Check.word(y, "0000");
        check.due("38: four of eight", y.shuffles(four, four, Check.word(y, "00000000")), 70);
        int seven = Check.word(y, "0120120");
        int last = Check.word(y, "1");
        check.due("38: one among seven", y.shuffles(seven, last, Check.word(y, "01201120")), 2);
        check.due("38: turned", y.shuffles(last, seven, Check.word(y, "10120120")), 1);
        check.due("38: eight and one", y.shuffles(Check.word(y, "01201120"), last, four), 0);
    }

    private void wrongShuffles() {
        Operadry x = new Operadry();
        Check.word(x, "0");
        for (int word : new int[] {-1, 1, 12, Integer.MIN_VALUE, Integer.MAX_VALUE}) {
            check.thrown("38: one " + word, IndexOutOfBoundsException.class,
                    () -> x.shuffles(word, 0, 0));
            check.thrown("38: other " + word, IndexOutOfBoundsException.class,
                    () -> x.shuffles(0, word, 0));
            check.thrown("38: word " + word, IndexOutOfBoundsException.class,
                    () -> x.shuffles(0, 0, word));
        }
    }

    private void lyndons() {
        Operadry x = new Operadry();
        long[] two = {2, 1, 2, 3, 6, 9, 18, 30, 56, 99, 186, 335};
        long[] three = {3, 3, 8, 18, 48, 116, 312, 810, 2184, 5880, 16104, 44220};
        for (int length = 1; length <= 12; length++) {
            check.due("39: 1, " + length, x.lyndons(1, length), length == 1 ? 1 : 0);
            check.due("39: 2, " + length, x.lyndons(2, length), two[length - 1]);
            check.due("39: 3, " + length, x.lyndons(3, length), three[length - 1]);
        }
        check.due("39: 9, 1", x.lyndons(9, 1), 9);
        check.due("39: 9, 12", x.lyndons(9, 12), 23535749880L);
        for (int wrong : new int[] {0, -1, 13, Integer.MIN_VALUE, Integer.MAX_VALUE}) {
            check.thrown("39: letters " + wrong, IllegalArgumentException.class,
                    () -> x.lyndons(wrong, 5));
            check.thrown("39: length " + wrong, IllegalArgumentException.class,
                    () -> x.lyndons(5, wrong));
        }
        check.thrown("39: 10 letters", IllegalArgumentException.class, () -> x.lyndons(10, 1));
        check.thrown("39: both", IllegalArgumentException.class, () -> x.lyndons(0, 0));
    }
}
