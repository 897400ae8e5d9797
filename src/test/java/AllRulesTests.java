import java.util.ArrayList;
import java.util.List;

/** Promises 15 and 17 to 21 for all sets of left sides of two operations, with no terms instead. */
public final class AllRulesTests {
    private static final int MOST_RULES = 8;

    private final Check check = new Check();

    private AllRulesTests() {
    }

    public static void main(String[] args) {
        AllRulesTests tests = new AllRulesTests();
        tests.allSets(5, 2, 2);
        tests.allSets(5, 2, 3);
        tests.allSets(7, 3);
        tests.check.end();
    }

    private static List<String> leftSides(int... widths) {
        List<String> found = new ArrayList<>();
        for (int upper = 0; upper < widths.length; upper++) {
            for (int input = 0; input < widths[upper]; input++) {
                for (int lower = 0; lower < widths.length; lower++) {
                    found.add(upper + "9".repeat(input) + lower
                            + "9".repeat(widths[lower] + widths[upper] - 1 - input));
                }
            }
        }
        return found;
    }

    private void allSets(int most, int... widths) {
        List<String> lefts = leftSides(widths);
        for (int set = 0; set < 1 << lefts.size(); set++) {
            if (Integer.bitCount(set) <= MOST_RULES) {
                oneSet(lefts, set, most, widths);
            }
        }
    }

    private void oneSet(List<String> lefts, int set, int most, int... widths) {
        Operadry x = Made.with(widths);
        Model model = new Model();
        for (int width : widths) {
            model.operation(width);
        }
        int none = x.sum();
        model.sum();
        int told = 0;
        for (int i = 0; i < lefts.size(); i++) {
            if ((set >> i & 1) == 1) {
                model.wipe();
                lefts.get(i).chars().forEach(sign -> model.type(sign - '0'));
                model.rule(model.tree(), 0);
                told++;
                check.due("15: " + lefts.get(i), x.rule(Check.tree(x, lefts.get(i)), none), told);
            }
        }
        String what = set + " of " + lefts;
        for (int i = 0; i < lefts.size(); i++) {
            check.due("17: " + lefts.get(i) + ", " + what,
                    x.isNormal(Check.tree(x, lefts.get(i))), (set >> i & 1) == 0);
        }
        for (int inputs = 1; inputs <= most; inputs++) {
            check.due("18: " + inputs + ", " + what, x.normals(inputs), model.normals(inputs));
            check.due("19: " + inputs + ", " + what, x.duals(inputs), model.duals(inputs));
        }
        check.due("20: all come to nothing, " + what, x.isConfluent(), true);
        if (widths.length == 2 && widths[1] == 2) {
            check.due("21: " + what, x.isInverse(8), true);
        }
        check.due("44: " + what, x.isSound(), true);
    }
}
