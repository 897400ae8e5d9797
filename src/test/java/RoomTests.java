import com.sun.management.ThreadMXBean;
import java.lang.management.ManagementFactory;

/**
 * All calls of a run live in one room, of some 600,000 objects and arrays with 7.3 million fields
 * and elements. What calls make is measured in bytes, if the machine tells them.
 */
public final class RoomTests {
    private static final long NEW_OBJECT = 40_000;
    private static final long KEPT = 40_000;
    private static final long MEASURED = 8_000;
    private static final int TREES = 630016;
    private static final long FOR_EACH_TREE = 32;
    private static final String[] SHRUBS = {"0", "00", "001", "0000000", "0012345", "00000000",
        "00000001", "00000012", "00000123", "00001234", "00012345", "00123456"};
    private static final String[] WORDS = {"0", "1", "2", "01", "10", "0000000", "0120120",
        "00000001", "00000010", "00000100", "01201201", "22222222"};

    private final Check check = new Check();
    private final ThreadMXBean machine;

    private RoomTests(ThreadMXBean machine) {
        this.machine = machine;
    }

    public static void main(String[] args) {
        RoomTests tests = new RoomTests((ThreadMXBean) ManagementFactory.getThreadMXBean());
        if (!tests.machine.isThreadAllocatedMemorySupported()) {
            System.out.println("this machine does not tell what is made");
            return;
        }
        tests.newObject();
        tests.keeping();
        tests.asking();
        tests.askingForShrubsAndWords();
        tests.reducingFew();
        tests.reducingToMany();
        tests.check.end();
    }

    private void atMost(String what, long bytes, Runnable calls) {
        long before = made();
        calls.run();
        long many = made() - before;
        check.due(what + " make " + many + " bytes, at most " + bytes, many <= bytes, true);
    }

    private long made() {
        return machine.getThreadAllocatedBytes(Thread.currentThread().getId());
    }

    private void newObject() {
        atMost("first ones", Long.MAX_VALUE, Operadry::new);
        atMost("new objects", NEW_OBJECT, Operadry::new);
    }

    /** Sums, shrubs and words as many as can be, and some of the longest trees. */
    private void keeping() {
        Operadry x = Made.with(3, 3, 3, 3);
        atMost("what is kept", KEPT, () -> {
            keepLongTrees(x);
            keepShrubsAndWords(x);
            for (int sum = 0; sum < 10; sum++) {
                x.sum();
                x.add(sum, sum % 4, 1);
            }
        });
        check.due("6: the last tree", x.inputs(3), 17);
        check.due("12: the last sum", x.terms(9), 1);
        check.due("23: the last shrub", x.knots(11), 8);
        check.due("35: the last word", x.factors(11), 8);
    }

    private static void keepLongTrees(Operadry x) {
        for (int kept = 0; kept < 4; kept++) {
            x.wipe();
            for (int sign = 0; sign < 25; sign++) {
                x.type(sign < 8 ? kept : 9);
            }
            x.tree();
        }
    }

    private static void keepShrubsAndWords(Operadry x) {
        for (String row : SHRUBS) {
            Check.shrub(x, row);
        }
        for (String row : WORDS) {
            Check.word(x, row);
        }
    }

    private void asking() {
        Operadry x = Made.full("9");
        atMost("sums and trees that are asked for", MEASURED, () -> {
            for (int i = 0; i < 20; i++) {
                x.compare(i, 39 - i);
                x.isNormal(i);
                x.signAt(i, 0);
                x.amount(1, 0);
                x.termSign(9, 0, i % 5);
                x.compose(i, 0, 0);
            }
            for (int i = 0; i < 15; i++) {
                x.checksum();
                x.meanTerms();
                x.normals(10);
                x.duals(10);
                x.normalShare(10);
                x.isInverse(8);
                x.isConfluent();
                x.isSound();
            }
        });
    }

    private void askingForShrubsAndWords() {
        Operadry x = new Operadry();
        keepShrubsAndWords(x);
        x.stages(4);
        atMost("shrubs and words that are asked for", MEASURED, () -> {
            for (int i = 0; i < 18; i++) {
                x.symmetry(i % 12);
                x.density(i % 12);
                x.growths(i % 12);
                x.cuts(5, i % 12);
                x.grafts(3, 0, i % 12);
                x.step(i % 4, i % 3, i, 99 - i);
                x.last(i % 4, -i, 98);
                x.weight(0, i % 2 == 0);
                x.order();
                x.factors(i % 12);
                x.factor(i % 12, 0);
                x.bracketed(7, i % 12);
                x.shuffles(6, 0, i % 12);
                x.lyndons(9, 12);
                x.faces(12, i % 11);
            }
        });
    }

    private void reducingFew() {
        Operadry x = Made.full("9");
        x.reduce(1);
        atMost("reductions of a few trees", MEASURED, () -> {
            for (int i = 0; i < 200; i++) {
                x.reduce(i % 10);
            }
        });
    }

    /** What one reduction has needed, the next one takes again. */
    private void reducingToMany() {
        Operadry x = manyTrees();
        atMost("many trees", TREES * FOR_EACH_TREE, () -> x.reduce(1));
        check.due("12: many trees", x.terms(1), TREES);
        atMost("many trees again", TREES * FOR_EACH_TREE / 2, () -> x.reduce(1));
        atMost("many trees once more", TREES, () -> x.reduce(1));
    }

    /** Pairs at the left come to all pairs at the right: nine of them, in a tree with eight. */
    private static Operadry manyTrees() {
        Operadry x = Made.with(2, 2, 2, 2);
        int right = x.sum();
        for (int pair = 0; pair < 16; pair++) {
            x.add(right, Check.tree(x, pair / 4 + "9" + pair % 4 + "99"), 1);
        }
        x.rule(Check.tree(x, "33999"), right);
        x.add(x.sum(), Check.tree(x, "33333333999999999"), 1);
        return x;
    }
}
