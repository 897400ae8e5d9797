import java.util.NoSuchElementException;

/** Promises 34 to 39, where they end: the last that is taken or kept, and the first that is not. */
public final class WordEdgeTests {
    private static final Class<IllegalArgumentException> ARGUMENT = IllegalArgumentException.class;
    private static final Class<IndexOutOfBoundsException> INDEX = IndexOutOfBoundsException.class;
    private static final Class<NoSuchElementException> ELEMENT = NoSuchElementException.class;
    private static final Class<UnsupportedOperationException> UNSUPPORTED =
            UnsupportedOperationException.class;

    private final Check check = new Check();

    private WordEdgeTests() {
    }

    public static void main(String[] args) {
        WordEdgeTests tests = new WordEdgeTests();
        tests.oneToEightLetters();
        tests.lettersFrom0To2();
        tests.twelveWords();
        tests.numbersOfWords();
        tests.oneToEightFactors();
        tests.firstAndLastFactor();
        tests.noneIsLowerThanTheNext();
        tests.bracketsOfOneToEightLetters();
        tests.lyndonWordsAlone();
        tests.otherWordsAsLong();
        tests.shufflesUpToEightLetters();
        tests.shufflesThatFit();
        tests.oneToNineLetters();
        tests.lengthsOf1To12();
        tests.check.end();
    }

    private void refuse(String what, Class<? extends RuntimeException> kind, Check.Call call) {
        check.thrown(what, kind, call);
    }

    private void notKept(Operadry x, String row) {
        Check.row(x, row);
        refuse("34: " + row, UNSUPPORTED, x::word);
    }

    private void oneToEightLetters() {
        Operadry x = new Operadry();
        notKept(x, "");
        for (int letters = 1; letters <= 8; letters++) {
            check.due("34: " + letters + " letters", Check.word(x, "2".repeat(letters)),
                    letters - 1);
        }
        notKept(x, "2".repeat(9));
        notKept(x, "2".repeat(40));
        refuse("35: no more are kept", INDEX, () -> x.factors(8));
    }

    private void lettersFrom0To2() {
        Operadry x = new Operadry();
        for (int letter = 0; letter <= 9; letter++) {
            for (String row : new String[] {"" + letter, letter + "0", "0000000" + letter}) {
                Check.row(x, row);
                if (letter <= 2) {
                    check.due("34: " + row, x.word() >= 0, true);
                } else {
                    refuse("34: " + row, UNSUPPORTED, x::word);
                }
            }
        }
        check.due("35: nine are kept", x.factors(8), 1);
        refuse("35: and no more", INDEX, () -> x.factors(9));
    }

    private void twelveWords() {
        Operadry x = new Operadry();
        String[] rows = {"0", "1", "2", "00", "01", "02", "10", "11", "12", "20", "21", "00000000"};
        for (int word = 0; word < 12; word++) {
            int next = word;
            refuse("35: ahead of it", INDEX, () -> x.factors(next));
            check.due("34: the next number", Check.word(x, rows[word]), word);
        }
        check.due("35: the twelfth", x.factors(11), 8);
        Check.row(x, "22");
        refuse("34: a thirteenth", IllegalStateException.class, x::word);
        refuse("35: no thirteenth", INDEX, () -> x.factors(12));
        check.due("34: like the first, when there are 12", Check.word(x, "0"), 0);
        check.due("34: like the last, when there are 12", Check.word(x, "00000000"), 11);
        notKept(x, "000000000");
        notKept(x, "23");
        notKept(x, "");
    }

    private void numbersOfWords() {
        Operadry x = new Operadry();
        Check.word(x, "0");
        Check.word(x, "1");
        for (int word : new int[] {-1, 2}) {
            refuse("35: " + word, INDEX, () -> x.factors(word));
            refuse("36: " + word, INDEX, () -> x.factor(word, 0));
            refuse("37: " + word, INDEX, () -> x.bracketed(word, 0));
            refuse("37: other " + word, INDEX, () -> x.bracketed(0, word));
            refuse("38: one " + word, INDEX, () -> x.shuffles(word, 0, 0));
            refuse("38: other " + word, INDEX, () -> x.shuffles(0, word, 0));
            refuse("38: word " + word, INDEX, () -> x.shuffles(0, 0, word));
        }
        check.due("35: first", x.factors(0), 1);
        check.due("35: last", x.factors(1), 1);
    }

    private void oneToEightFactors() {
        Operadry x = new Operadry();
        for (int letters = 1; letters <= 8; letters++) {
            int many = Check.word(x, "1".repeat(letters));
            check.due("35: " + letters + " letters, as many factors", x.factors(many), letters);
        }
        check.due("35: 8 letters, one factor", x.factors(Check.word(x, "00000001")), 1);
        check.due("35: 8 letters, two factors", x.factors(Check.word(x, "00000010")), 2);
    }

    private void firstAndLastFactor() {
        Operadry x = new Operadry();
        int many = Check.word(x, "22222222");
        int one = Check.word(x, "00000001");
        int two = Check.word(x, "10000001");
        refuse("36: -1", ELEMENT, () -> x.factor(many, -1));
        check.due("36: first of 8", x.factor(many, 0), 1);
        check.due("36: last of 8", x.factor(many, 7), 1);
        refuse("36: behind 8", ELEMENT, () -> x.factor(many, 8));
        check.due("36: the only one", x.factor(one, 0), 8);
        refuse("36: behind the only one", ELEMENT, () -> x.factor(one, 1));
        check.due("36: first of 2", x.factor(two, 0), 1);
        check.due("36: last of 2", x.factor(two, 1), 7);
        refuse("36: behind 2", ELEMENT, () -> x.factor(two, 2));
    }

    /** Like factors stand one behind the other; a row is ahead of those that go on from it. */
    private void noneIsLowerThanTheNext() {
        Operadry x = new Operadry();
        int like = Check.word(x, "01010101");
        check.due("35: four like ones", x.factors(like), 4);
        check.due("36: four like ones", x.factor(like, 3), 2);
        int longer = Check.word(x, "0010");
        check.due("35: a row and its beginning", x.factors(longer), 2);
        check.due("36: a row and its beginning", x.factor(longer, 0), 3);
        int rising = Check.word(x, "0001");
        check.due("35: the beginning ahead of the row", x.factors(rising), 1);
        int falling = Check.word(x, "21");
        check.due("35: falling", x.factors(falling), 2);
    }

    private void bracketsOfOneToEightLetters() {
        Operadry x = new Operadry();
        int one = Check.word(x, "2");
        check.due("37: a letter", x.bracketed(one, one), 1);
        check.due("37: another letter", x.bracketed(one, Check.word(x, "1")), 0);
        int two = Check.word(x, "02");
        check.due("37: two letters", x.bracketed(two, two), 1);
        check.due("37: two letters, turned", x.bracketed(two, Check.word(x, "20")), -1);
        int eight = Check.word(x, "00000001");
        check.due("37: eight letters", x.bracketed(eight, eight), 1);
        check.due("37: eight letters, turned", x.bracketed(eight, Check.word(x, "10000000")), -1);
        check.due("37: eight letters, in the middle", x.bracketed(eight,
                Check.word(x, "00010000")), 35);
        check.due("37: eight letters, others", x.bracketed(eight, Check.word(x, "00000000")), 0);
        check.due("37: eight letters, others", x.bracketed(eight, Check.word(x, "00000011")), 0);
    }

    private void lyndonWordsAlone() {
        Operadry x = new Operadry();
        int letter = Check.word(x, "0");
        int rise = Check.word(x, "01");
        int twice = Check.word(x, "00");
        int fall = Check.word(x, "10");
        int again = Check.word(x, "0101");
        int border = Check.word(x, "010");
        check.due("37: a letter is one", x.bracketed(letter, letter), 1);
        check.due("37: a rise is one", x.bracketed(rise, rise), 1);
        for (int word : new int[] {twice, fall, again, border}) {
            refuse("37: none, " + word, UNSUPPORTED, () -> x.bracketed(word, word));
            refuse("37: none, of another length " + word, UNSUPPORTED,
                    () -> x.bracketed(word, letter));
            refuse("37: none, and no other " + word, INDEX, () -> x.bracketed(word, 6));
        }
        check.due("37: the other one need not be one", x.bracketed(rise, fall), -1);
    }

    private void otherWordsAsLong() {
        Operadry x = new Operadry();
        int word = Check.word(x, "001");
        check.due("37: one letter less", x.bracketed(word, Check.word(x, "00")), 0);
        check.due("37: one letter less", x.bracketed(word, Check.word(x, "01")), 0);
        check.due("37: one letter more", x.bracketed(word, Check.word(x, "0010")), 0);
        check.due("37: one letter more", x.bracketed(word, Check.word(x, "0001")), 0);
        check.due("37: as long", x.bracketed(word, Check.word(x, "010")), -2);
    }

    private void shufflesUpToEightLetters() {
        Operadry x = new Operadry();
        int[] due = {8, 28, 56, 70, 56, 28, 8};
        for (int letters = 1; letters <= 8; letters++) {
            Check.word(x, "0".repeat(letters));
        }
        for (int letters = 1; letters <= 7; letters++) {
            check.due("38: " + letters + " of 8", x.shuffles(letters - 1, 7 - letters, 7),
                    due[letters - 1]);
        }
        check.due("38: 8 and 1", x.shuffles(7, 0, 7), 0);
        check.due("38: 1 and 8", x.shuffles(0, 7, 7), 0);
        check.due("38: 8 and 8", x.shuffles(7, 7, 7), 0);
        check.due("38: 1 and 1", x.shuffles(0, 0, 1), 2);
        check.due("38: 1 and 1, one letter less", x.shuffles(0, 0, 0), 0);
        check.due("38: 1 and 1, one letter more", x.shuffles(0, 0, 2), 0);
    }

    private void shufflesThatFit() {
        Operadry x = new Operadry();
        int ahead = Check.word(x, "0120");
        int behind = Check.word(x, "2211");
        check.due("38: one behind the other", x.shuffles(ahead, behind,
                Check.word(x, "01202211")), 1);
        check.due("38: turned", x.shuffles(ahead, behind, Check.word(x, "22110120")), 1);
        check.due("38: in turns", x.shuffles(ahead, behind, Check.word(x, "02122101")), 2);
        check.due("38: the last letter wrong", x.shuffles(ahead, behind,
                Check.word(x, "01202210")), 0);
        check.due("38: the first letter wrong", x.shuffles(ahead, behind,
                Check.word(x, "11202211")), 0);
    }

    private void oneToNineLetters() {
        Operadry x = new Operadry();
        refuse("39: 0 letters", ARGUMENT, () -> x.lyndons(0, 1));
        for (int letters = 1; letters <= 9; letters++) {
            check.due("39: single ones of " + letters, x.lyndons(letters, 1), letters);
            check.due("39: pairs of " + letters, x.lyndons(letters, 2),
                    letters * (letters - 1) / 2);
        }
        refuse("39: 10 letters", ARGUMENT, () -> x.lyndons(10, 1));
    }

    private void lengthsOf1To12() {
        Operadry x = new Operadry();
        long[] nine = {9, 36, 240, 1620, 11808, 88440, 683280, 5380020, 43046640, 348672528,
            2852823600L, 23535749880L};
        refuse("39: length 0", ARGUMENT, () -> x.lyndons(9, 0));
        for (int length = 1; length <= 12; length++) {
            check.due("39: length " + length + " of 9", x.lyndons(9, length), nine[length - 1]);
            check.due("39: length " + length + " of 1", x.lyndons(1, length), length == 1 ? 1 : 0);
        }
        refuse("39: length 13", ARGUMENT, () -> x.lyndons(9, 13));
        refuse("39: both", ARGUMENT, () -> x.lyndons(10, 13));
        refuse("39: both", ARGUMENT, () -> x.lyndons(0, 0));
    }
}
