import java.util.NoSuchElementException;

/** Promises 11 to 14, 16, 41 and 43 where a sum comes to thousands of terms, or to a million. */
public final class ManyTermsTests {
    private static final int THOUSANDS = 6561;

    private final Check check = new Check();

    private ManyTermsTests() {
    }

    public static void main(String[] args) {
        ManyTermsTests tests = new ManyTermsTests();
        tests.thousands();
        tests.addingToThousands();
        tests.addingAheadOfThousands();
        tests.takingFromThousands();
        tests.askingBehindWhatHasGone();
        tests.aMillion();
        tests.check.end();
    }

    /**
     * Four pairs of operations come to each pair of three other ones: 3 to the 8th trees in sum 1,
     * behind the right side.
     */
    private static Operadry withThousands() {
        Operadry x = Made.with(2, 2, 2, 2);
        int right = x.sum();
        for (int pair = 0; pair < 9; pair++) {
            x.add(right, Check.tree(x, pair / 3 + "9" + pair % 3 + "99"), pair + 1);
        }
        x.rule(Check.tree(x, "39399"), right);
        Check.sum(x, "2 39393939393939399");
        return x;
    }

    /** The tree of a term: the four pairs are digits, and the greatest number comes first. */
    private static String rowOf(int term) {
        StringBuilder row = new StringBuilder("9");
        int rest = THOUSANDS - 1 - term;
        for (int pair = 0; pair < 4; pair++) {
            row.insert(0, rest / 3 % 3 + "9" + rest % 3 + "9");
            rest /= 9;
        }
        return row.toString();
    }

    private static long amountOf(int term) {
        long amount = 2;
        int rest = THOUSANDS - 1 - term;
        for (int pair = 0; pair < 4; pair++) {
            amount *= rest % 9 + 1;
            rest /= 9;
        }
        return amount;
    }

    private void thousands() {
        Operadry x = withThousands();
        check.due("16: thousands", x.reduce(1), THOUSANDS);
        check.due("12: thousands", x.terms(1), THOUSANDS);
        for (int term = 0; term < THOUSANDS; term += 656) {
            StringBuilder row = new StringBuilder();
            for (int place = 0; place < 17; place++) {
                row.append(x.termSign(1, term, place));
            }
            check.dueText("14: of thousands, " + term, row.toString(), rowOf(term));
            check.due("13: of thousands, " + term, x.amount(1, term), amountOf(term));
        }
        check.thrown("13: behind thousands", NoSuchElementException.class,
                () -> x.amount(1, THOUSANDS));
        check.due("16: thousands again", x.reduce(1), THOUSANDS);
        check.due("16: few after them", x.reduce(0), 9);
        check.due("43: half of both", x.meanTerms() == (THOUSANDS + 9) / 2.0, true);
    }

    /** At both ends, and at many places between them. */
    private void addingToThousands() {
        Operadry x = withThousands();
        x.reduce(1);
        for (int term : new int[] {0, 1, 63, 64, 65, 127, 128, 192, 3280, 6400, 6463, 6464, 6560}) {
            int tree = Check.tree(x, rowOf(term));
            check.due("11: to term " + term, x.add(1, tree, 7), amountOf(term) + 7);
            check.due("12: as many terms", x.terms(1), THOUSANDS);
            check.due("13: of term " + term, x.amount(1, term), amountOf(term) + 7);
            check.due("11: back again " + term, x.add(1, tree, -7), amountOf(term));
        }
    }

    /** Greater trees than all others: each of them goes ahead of the ones before. */
    private void addingAheadOfThousands() {
        Operadry x = withThousands();
        x.reduce(1);
        int many = 0;
        for (String pairs : new String[] {"3909", "3919", "3929"}) {
            for (String rest : new String[] {"090909090909", "191919191919", "292929292929"}) {
                many++;
                check.due("11: a greater one", x.add(1, Check.tree(x, pairs + rest + "9"), many),
                        many);
                check.due("12: one more", x.terms(1), THOUSANDS + many);
                check.due("13: ahead of all", x.amount(1, 0), many);
                check.due("13: then the ones before", x.amount(1, many), amountOf(0));
                check.due("13: the middle", x.amount(1, 3280 + many), amountOf(3280));
            }
        }
        check.due("16: they are normal", x.reduce(1), THOUSANDS + many);
        check.due("13: ahead of all", x.amount(1, 0), many);
    }

    /** A term that comes to 0 goes, the next ones follow, and it comes again. */
    private void takingFromThousands() {
        Operadry x = withThousands();
        x.reduce(1);
        for (int term : new int[] {6465, 6480, 6524, 6527, 6528, 6535, 6559, 6560}) {
            long amount = amountOf(term);
            int tree = Check.tree(x, rowOf(term));
            long left = amount;
            while (left > 0) {
                int taken = (int) Math.min(left, 99);
                left -= taken;
                check.due("11: taken from term " + term, x.add(1, tree, -taken), left);
            }
            check.due("12: one less without " + term, x.terms(1), THOUSANDS - 1);
            check.due("13: the one before " + term, x.amount(1, term - 1), amountOf(term - 1));
            if (term < THOUSANDS - 1) {
                check.due("13: the next one, for " + term, x.amount(1, term), amountOf(term + 1));
            }
            check.due("11: again, term " + term, x.add(1, tree, 50), 50);
            check.due("12: all again", x.terms(1), THOUSANDS);
            check.due("13: again, term " + term, x.amount(1, term), 50);
            x.add(1, tree, (int) Math.min(amount, 99) - 50);
        }
    }

    /** The last terms are asked for ahead of it, so that these are asked for near them. */
    private void askingBehindWhatHasGone() {
        Operadry x = withThousands();
        x.reduce(1);
        int last = THOUSANDS - 1;
        for (int term : new int[] {0, 728, 5831, 6479}) {
            int tree = Check.tree(x, rowOf(term));
            long left = amountOf(term);
            check.due("13: the last one", x.amount(1, last), amountOf(last));
            while (left > 0) {
                left = x.add(1, tree, (int) -Math.min(left, 99));
            }
            check.due("13: the last one, without " + term, x.amount(1, last - 1), amountOf(last));
            check.due("13: the one before it", x.amount(1, last - 2), amountOf(last - 1));
            check.due("14: the last one", x.termSign(1, last - 1, 15), 9);
            check.due("11: again, term " + term, x.add(1, tree, 60), 60);
            check.due("13: the last one again", x.amount(1, last), amountOf(last));
            check.due("13: the one before it again", x.amount(1, last - 1), amountOf(last - 1));
        }
    }

    /**
     * Four pairs of wide operations come to each of 27 pairs, in two trees of which no like ones
     * come: 2 times 27 to the 4th trees.
     */
    private void aMillion() {
        Operadry x = new Operadry();
        for (int i = 0; i < 4; i++) {
            x.operation(3);
        }
        int right = x.sum();
        for (int pair = 0; pair < 27; pair++) {
            String inputs = "999".substring(pair / 9);
            String row = pair / 3 % 3 + "999".substring(3 - pair / 9) + pair % 3 + "999" + inputs;
            x.add(right, Check.tree(x, row.substring(0, 7)), 1);
        }
        int pair = Check.tree(x, "3399999");
        x.rule(pair, right);
        int sum = x.sum();
        for (int input = 0; input < 5; input += 4) {
            int twoPairs = x.compose(pair, input, pair);
            int threePairs = x.compose(twoPairs, input, pair);
            x.add(sum, x.compose(threePairs, input, pair), 3 + input);
        }
        check.due("12: two", x.terms(sum), 2);
        check.due("16: a million", x.reduce(sum), 2 * 27 * 27 * 27 * 27);
        check.due("12: a million", x.terms(sum), 2 * 27 * 27 * 27 * 27);
        int[] amounts = new int[8];
        for (int term = 0; term < 2 * 27 * 27 * 27 * 27; term += 20000) {
            amounts[(int) x.amount(sum, term)]++;
            check.due("14: of a million, " + term, x.termSign(sum, term, 0) < 3, true);
        }
        check.due("13: of a million", amounts[3] + amounts[7], 54);
        long before = x.checksum();
        check.due("16: a million again", x.reduce(sum), 2 * 27 * 27 * 27 * 27);
        check.due("41: as before", x.checksum(), before);
        check.due("13: the lowest", x.amount(sum, 2 * 27 * 27 * 27 * 27 - 1), 7);
        check.due("13: the greatest", x.amount(sum, 0), 3);
        check.due("43: half of them", x.meanTerms() == (2 * 27 * 27 * 27 * 27 + 27) / 2.0, true);
    }
}
