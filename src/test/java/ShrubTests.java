/** Promises 22 to 28: shrubs, their cuts and grafts. */
public final class ShrubTests {
    private final Check check = new Check();

    private ShrubTests() {
    }

    public static void main(String[] args) {
        ShrubTests tests = new ShrubTests();
        tests.keeping();
        tests.wrongRows();
        tests.twelve();
        tests.numbers();
        tests.noSuchShrub();
        tests.cuts();
        tests.cutsOfForked();
        tests.grafts();
        tests.check.end();
    }

    private void keeping() {
        Operadry x = new Operadry();
        check.due("22: one knot", Check.shrub(x, "0"), 0);
        check.due("22: three above", Check.shrub(x, "0001"), 1);
        check.due("22: on the other one", Check.shrub(x, "0002"), 1);
        check.due("22: in another order", Check.shrub(x, "0010"), 1);
        check.due("22: another one", Check.shrub(x, "0011"), 2);
        check.due("22: a way", Check.shrub(x, "0012"), 3);
        check.due("22: large", Check.shrub(x, "00011223"), 4);
        check.due("22: large, from the other side", Check.shrub(x, "00022116"), 4);
        check.due("22: large, upwards first", Check.shrub(x, "00121055"), 4);
        check.due("22: the row stays", x.wipe(), 8);
    }

    private void wrongRows() {
        Operadry x = new Operadry();
        x.operation(2);
        for (String row : new String[] {"", "1", "9", "01", "10", "002", "0013", "000000000",
            "0019", "00000008"}) {
            Check.row(x, row);
            check.thrown("22: " + row, UnsupportedOperationException.class, x::shrub);
            check.due("22: the row stays " + row, x.wipe(), row.length());
        }
        check.thrown("22: none was kept", IndexOutOfBoundsException.class, () -> x.knots(0));
        check.due("22: 8 knots", Check.shrub(x, "00000000"), 0);
    }

    private void twelve() {
        Operadry x = new Operadry();
        String[] rows = {"0", "00", "000", "001", "0000", "0001", "0011", "0012", "00000", "00001",
            "00011", "00012"};
        for (int i = 0; i < rows.length; i++) {
            check.due("22: " + rows[i], Check.shrub(x, rows[i]), i);
        }
        Check.row(x, "00123");
        check.thrown("22: thirteenth", IllegalStateException.class, x::shrub);
        check.thrown("22: none was kept", IndexOutOfBoundsException.class, () -> x.knots(12));
        Check.row(x, "02");
        check.thrown("22: no shrub, first", UnsupportedOperationException.class, x::shrub);
        check.due("22: like one", Check.shrub(x, "00021"), 11);
        check.due("23: the last one", x.knots(11), 5);
    }

    private void numbers() {
        of("0", 1, 1, 1, 1);
        of("00", 2, 1, 2, 1);
        of("000", 3, 2, 3, 2);
        of("001", 3, 1, 6, 1);
        of("0011", 4, 2, 12, 2);
        of("0010", 4, 1, 8, 3);
        of("0001122", 7, 8, 63, 80);
        of("00012234", 8, 1, 8 * 3 * 4 * 2 * 2, 40320 / 384);
        of("00000000", 8, 5040, 8, 5040);
        of("00123456", 8, 1, 40320, 1);
        of("00111000", 8, 6 * 6, 8 * 4, 1260);
    }

    private void of(String row, int knots, int symmetry, int density, int growths) {
        Operadry x = new Operadry();
        check.due("22: " + row, Check.shrub(x, row), 0);
        check.due("23: " + row, x.knots(0), knots);
        check.due("24: " + row, x.symmetry(0), symmetry);
        check.due("25: " + row, x.density(0), density);
        check.due("26: " + row, x.growths(0), growths);
    }

    private void noSuchShrub() {
        Operadry x = new Operadry();
        Check.shrub(x, "001");
        for (int shrub : new int[] {-1, 1, 12, Integer.MIN_VALUE, Integer.MAX_VALUE}) {
            Class<IndexOutOfBoundsException> none = IndexOutOfBoundsException.class;
            check.thrown("23: " + shrub, none, () -> x.knots(shrub));
            check.thrown("24: " + shrub, none, () -> x.symmetry(shrub));
            check.thrown("25: " + shrub, none, () -> x.density(shrub));
            check.thrown("26: " + shrub, none, () -> x.growths(shrub));
            check.thrown("27: " + shrub, none, () -> x.cuts(shrub, 0));
            check.thrown("27: trunk " + shrub, none, () -> x.cuts(0, shrub));
            check.thrown("28: " + shrub, none, () -> x.grafts(shrub, 0, 0));
            check.thrown("28: graft " + shrub, none, () -> x.grafts(0, shrub, 0));
            check.thrown("28: result " + shrub, none, () -> x.grafts(0, 0, shrub));
        }
    }

    private void cuts() {
        Operadry x = new Operadry();
        int knot = Check.shrub(x, "0");
        int two = Check.shrub(x, "00");
        int cherry = Check.shrub(x, "000");
        int way = Check.shrub(x, "001");
        int star = Check.shrub(x, "0000");
        int broom = Check.shrub(x, "0011");
        check.due("27: no branch", x.cuts(knot, knot), 1);
        check.due("27: greater trunk", x.cuts(knot, two), 0);
        check.due("27: one branch, cut", x.cuts(two, knot), 1);
        check.due("27: one branch, none cut", x.cuts(two, two), 1);
        check.due("27: way", x.cuts(way, knot), 1);
        check.due("27: way, upper one", x.cuts(way, two), 1);
        check.due("27: way, none", x.cuts(way, way), 1);
        check.due("27: way, other", x.cuts(way, cherry), 0);
        check.due("27: star, all", x.cuts(star, knot), 1);
        check.due("27: star, two", x.cuts(star, two), 3);
        check.due("27: star, one", x.cuts(star, cherry), 3);
        check.due("27: star, none", x.cuts(star, star), 1);
        check.due("27: star, as large", x.cuts(star, broom), 0);
        check.due("27: broom, lowest", x.cuts(broom, knot), 1);
        check.due("27: broom, both", x.cuts(broom, two), 1);
        check.due("27: broom, one", x.cuts(broom, way), 2);
        check.due("27: broom, no cherry stays", x.cuts(broom, cherry), 0);
        check.due("27: broom, none", x.cuts(broom, broom), 1);
    }

    private void cutsOfForked() {
        Operadry x = new Operadry();
        int whole = Check.shrub(x, "0001122");
        String[] trunks = {"0", "00", "001", "0011", "000", "0001", "00012", "00011", "000112"};
        int[] want = {1, 2, 4, 2, 1, 4, 4, 2, 4};
        for (int i = 0; i < trunks.length; i++) {
            check.due("27: forked, " + trunks[i], x.cuts(whole, Check.shrub(x, trunks[i])),
                    want[i]);
        }
        check.due("27: forked, none", x.cuts(whole, whole), 1);
        Operadry y = new Operadry();
        int star = Check.shrub(y, "00000000");
        int half = Check.shrub(y, "0000");
        check.due("27: large star", y.cuts(star, half), 35);
    }

    private void grafts() {
        Operadry x = new Operadry();
        int knot = Check.shrub(x, "0");
        int two = Check.shrub(x, "00");
        int cherry = Check.shrub(x, "000");
        int way = Check.shrub(x, "001");
        int star = Check.shrub(x, "0000");
        int hook = Check.shrub(x, "0001");
        int broom = Check.shrub(x, "0011");
        int long4 = Check.shrub(x, "0012");
        int large = Check.shrub(x, "00000000");
        check.due("28: knot on knot", x.grafts(knot, knot, two), 1);
        check.due("28: at the root", x.grafts(two, knot, cherry), 1);
        check.due("28: at the top", x.grafts(two, knot, way), 1);
        check.due("28: two on a knot", x.grafts(knot, two, way), 1);
        check.due("28: two on a knot, not by its top", x.grafts(knot, two, cherry), 0);
        check.due("28: on a cherry, root", x.grafts(cherry, knot, star), 1);
        check.due("28: on a cherry, tops", x.grafts(cherry, knot, hook), 2);
        check.due("28: on a cherry, neither", x.grafts(cherry, knot, broom), 0);
        check.due("28: a cherry on a knot", x.grafts(knot, cherry, broom), 1);
        check.due("28: two on two, top", x.grafts(two, two, long4), 1);
        check.due("28: two on two, root", x.grafts(two, two, hook), 1);
        check.due("28: on a way, middle", x.grafts(way, knot, broom), 1);
        check.due("28: on a way, root", x.grafts(way, knot, hook), 1);
        check.due("28: too small a result", x.grafts(two, two, cherry), 0);
        check.due("28: too large a result", x.grafts(two, knot, star), 0);
        check.due("28: on the largest", x.grafts(large, knot, large), 0);
        check.due("28: the largest on it", x.grafts(large, large, large), 0);
    }
}
