import java.util.ArrayList;
import java.util.List;

/** Promises 34 to 39 for every word, or for every one with few letters. */
public final class AllWordsTests {
    private static final int MOST_LETTERS = 8;
    private static final int MOST_BRACKETED = 5;
    private static final int IN_ONE_OBJECT = 10;

    private final Check check = new Check();

    private AllWordsTests() {
    }

    public static void main(String[] args) {
        AllWordsTests tests = new AllWordsTests();
        for (int length = 1; length <= MOST_LETTERS; length++) {
            tests.factors(length);
        }
        for (int length = 1; length <= MOST_BRACKETED; length++) {
            tests.brackets(length);
        }
        tests.check.end();
    }

    private static List<String> words(int length) {
        List<String> words = new ArrayList<>();
        words.add("");
        for (int i = 0; i < length; i++) {
            List<String> longer = new ArrayList<>();
            for (String word : words) {
                for (int letter = 0; letter < 3; letter++) {
                    longer.add(word + letter);
                }
            }
            words = longer;
        }
        return words;
    }

    private static List<String> lyndons(int length) {
        List<String> found = words(length);
        found.removeIf(word -> !Model.isLyndon(word));
        return found;
    }

    /** There is one way alone: what is one is it. */
    private void factors(int length) {
        for (String row : words(length)) {
            Operadry x = new Operadry();
            int word = Check.word(x, row);
            String before = "3";
            int from = 0;
            int many = x.factors(word);
            for (int i = 0; i < many; i++) {
                int to = Math.min(from + x.factor(word, i), length);
                String factor = row.substring(from, to);
                check.due("36: a Lyndon word in " + row, Model.isLyndon(factor), true);
                check.due("36: not greater than the one before in " + row,
                        factor.compareTo(before) <= 0, true);
                before = factor;
                from = to;
            }
            check.due("35: the whole of " + row, from, length);
            check.due("44: " + row, x.isSound(), true);
        }
        check.due("39: of three letters, " + length, new Operadry().lyndons(3, length),
                lyndons(length).size());
    }

    /** Amounts of all words as long in the bracket of a Lyndon word. */
    private static long[] amounts(String lyndon, List<String> words) {
        long[] amounts = new long[words.size()];
        for (int first = 0; first < amounts.length; first += IN_ONE_OBJECT) {
            Operadry x = new Operadry();
            int word = Check.word(x, lyndon);
            for (int i = first; i < Math.min(first + IN_ONE_OBJECT, amounts.length); i++) {
                amounts[i] = x.bracketed(word, Check.word(x, words.get(i)));
            }
        }
        return amounts;
    }

    private static long[] shuffles(String one, String other, List<String> words) {
        long[] ways = new long[words.size()];
        for (int first = 0; first < ways.length; first += IN_ONE_OBJECT) {
            Operadry x = new Operadry();
            int ahead = Check.word(x, one);
            int behind = Check.word(x, other);
            for (int i = first; i < Math.min(first + IN_ONE_OBJECT, ways.length); i++) {
                ways[i] = x.shuffles(ahead, behind, Check.word(x, words.get(i)));
            }
        }
        return ways;
    }

    /**
     * Of all words in a bracket the Lyndon word is the lowest, once; a word that is turned has the
     * same amount but for the sign; and over the shuffles of two words all amounts are 0 in sum.
     */
    private void brackets(int length) {
        List<String> words = words(length);
        List<long[]> brackets = new ArrayList<>();
        for (String lyndon : lyndons(length)) {
            long[] amounts = amounts(lyndon, words);
            brackets.add(amounts);
            for (int i = 0; i < amounts.length; i++) {
                String word = words.get(i);
                int order = word.compareTo(lyndon);
                check.due("37: " + word + " in the bracket of " + lyndon,
                        order < 0 ? amounts[i] == 0 : order > 0 || amounts[i] == 1, true);
                int turned = words.indexOf(new StringBuilder(word).reverse().toString());
                check.due("37: turned, " + word + " in the bracket of " + lyndon, amounts[turned],
                        length % 2 == 1 ? amounts[i] : -amounts[i]);
            }
        }
        for (int ahead = 1; ahead < length; ahead++) {
            for (String one : words(ahead)) {
                for (String other : words(length - ahead)) {
                    long[] ways = shuffles(one, other, words);
                    check.due("38: all of " + one + " and " + other, sumOf(ways, null),
                            choose(length, ahead));
                    for (long[] amounts : brackets) {
                        check.due("38, 37: brackets over " + one + " and " + other,
                                sumOf(ways, amounts), 0);
                    }
                }
            }
        }
    }

    private static long sumOf(long[] ways, long[] amounts) {
        long all = 0;
        for (int i = 0; i < ways.length; i++) {
            all += ways[i] * (amounts == null ? 1 : amounts[i]);
        }
        return all;
    }

    private static long choose(int many, int chosen) {
        long ways = 1;
        for (int i = 1; i <= chosen; i++) {
            ways = ways * (many - i + 1) / i;
        }
        return ways;
    }
}
