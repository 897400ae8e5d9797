import java.util.ArrayList;
import java.util.Collections;
import java.util.List;
import java.util.Map;
import java.util.TreeMap;

/** Promises 22 to 28 for every row that is a shrub, and for all shrubs that these make. */
public final class AllShrubsTests {
    private static final int[] SHRUBS = {1, 1, 2, 4, 9, 20, 48, 115};

    private final Check check = new Check();
    /** For each number of knots: the first row of each shrub, by its shape. */
    private final List<Map<String, String>> all = new ArrayList<>();

    private AllShrubsTests() {
    }

    public static void main(String[] args) {
        AllShrubsTests tests = new AllShrubsTests();
        for (int knots = 1; knots <= 8; knots++) {
            tests.likeOnes(knots);
            tests.unlikeOnes(knots);
            tests.numbers(knots);
        }
        tests.cuts();
        tests.grafts();
        tests.check.end();
    }

    /** The shape of the part from a knot up: brackets round those of its branches, in order. */
    private static String shape(String row, int knot) {
        List<String> branches = new ArrayList<>();
        for (int i = knot + 1; i < row.length(); i++) {
            if (row.charAt(i) - '0' == knot) {
                branches.add(shape(row, i));
            }
        }
        Collections.sort(branches);
        return "(" + String.join("", branches) + ")";
    }

    private static void rows(String start, int knots, List<String> found) {
        if (start.length() == knots) {
            found.add(start);
            return;
        }
        for (int lower = 0; lower < start.length(); lower++) {
            rows(start + lower, knots, found);
        }
    }

    /** Each row has the number of the first row of its shape. */
    private void likeOnes(int knots) {
        List<String> rows = new ArrayList<>();
        rows("0", knots, rows);
        Map<String, String> first = new TreeMap<>();
        for (String row : rows) {
            first.putIfAbsent(shape(row, 0), row);
        }
        check.due("shrubs of " + knots, first.size(), SHRUBS[knots - 1]);
        all.add(first);
        for (String row : rows) {
            Operadry x = new Operadry();
            String like = first.get(shape(row, 0));
            Check.shrub(x, like);
            check.due("22: " + row + " is like " + like, Check.shrub(x, row), 0);
        }
    }

    private void unlikeOnes(int knots) {
        List<String> rows = new ArrayList<>(all.get(knots - 1).values());
        for (String one : rows) {
            for (int next = 0; next < rows.size(); next += 11) {
                Operadry x = new Operadry();
                Check.shrub(x, one);
                int number = 0;
                for (String other : rows.subList(next, Math.min(next + 11, rows.size()))) {
                    number += other.equals(one) ? 0 : 1;
                    check.due("22: " + other + " with " + one + " and others",
                            Check.shrub(x, other), other.equals(one) ? 0 : number);
                }
            }
        }
    }

    /** Rows of a shape are as many as its growths divided by its symmetry. */
    private void numbers(int knots) {
        Map<String, Integer> many = new TreeMap<>();
        List<String> rows = new ArrayList<>();
        rows("0", knots, rows);
        for (String row : rows) {
            many.merge(shape(row, 0), 1, Integer::sum);
        }
        int orders = 1;
        for (int knot = 2; knot <= knots; knot++) {
            orders *= knot;
        }
        for (Map.Entry<String, String> one : all.get(knots - 1).entrySet()) {
            Operadry x = new Operadry();
            int shrub = Check.shrub(x, one.getValue());
            String what = one.getValue();
            check.due("23: " + what, x.knots(shrub), knots);
            check.due("26, 24: " + what, x.growths(shrub),
                    x.symmetry(shrub) * many.get(one.getKey()));
            check.due("26, 25: " + what, x.growths(shrub) * x.density(shrub), orders);
            check.due("44: " + what, x.isSound(), true);
        }
    }

    /** With a trunk of each shape: all cuts are counted once. */
    private void cuts() {
        for (int knots = 1; knots <= 7; knots++) {
            for (String row : all.get(knots - 1).values()) {
                int most = 0;
                for (int size = 1; size <= knots; size++) {
                    for (String trunk : all.get(size - 1).values()) {
                        Operadry x = new Operadry();
                        int whole = Check.shrub(x, row);
                        most += x.cuts(whole, Check.shrub(x, trunk));
                    }
                }
                check.due("27: all cuts of " + row, most, cutsFrom(row, 0));
            }
        }
    }

    /** Each branch is cut, or it stays with some cut further up. */
    private static int cutsFrom(String row, int knot) {
        int product = 1;
        for (int i = knot + 1; i < row.length(); i++) {
            if (row.charAt(i) - '0' == knot) {
                product *= 1 + cutsFrom(row, i);
            }
        }
        return product;
    }

    /** Each knot of a shrub gives one result. */
    private void grafts() {
        for (int knots = 1; knots <= 6; knots++) {
            for (String row : all.get(knots - 1).values()) {
                for (String graft : all.get(6 - knots).values()) {
                    int most = 0;
                    for (String result : all.get(6).values()) {
                        Operadry x = new Operadry();
                        int shrub = Check.shrub(x, row);
                        int other = Check.shrub(x, graft);
                        most += x.grafts(shrub, other, Check.shrub(x, result));
                    }
                    check.due("28: " + graft + " on " + row, most, knots);
                }
            }
        }
    }
}
