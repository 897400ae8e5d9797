/** Promises 22 to 28, where they end: the last that is taken or kept, and the first that is not. */
public final class ShrubEdgeTests {
    private static final Class<IndexOutOfBoundsException> INDEX = IndexOutOfBoundsException.class;
    private static final Class<UnsupportedOperationException> UNSUPPORTED =
            UnsupportedOperationException.class;

    private final Check check = new Check();

    private ShrubEdgeTests() {
    }

    public static void main(String[] args) {
        ShrubEdgeTests tests = new ShrubEdgeTests();
        tests.oneToEightKnots();
        tests.theRootIs0();
        tests.eachKnotHasALowerOne();
        tests.twelveShrubs();
        tests.likeOnesHaveOneNumber();
        tests.numbersOfShrubs();
        tests.leastAndGreatestSymmetry();
        tests.leastAndGreatestDensity();
        tests.leastAndGreatestGrowths();
        tests.trunksFromOneKnotToAll();
        tests.cutsOfEightKnots();
        tests.graftsUpToEightKnots();
        tests.graftsOnEachKnot();
        tests.check.end();
    }

    private void refuse(String what, Class<? extends RuntimeException> kind, Check.Call call) {
        check.thrown(what, kind, call);
    }

    private void notKept(Operadry x, String row) {
        Check.row(x, row);
        refuse("22: " + row, UNSUPPORTED, x::shrub);
    }

    private void oneToEightKnots() {
        Operadry x = new Operadry();
        notKept(x, "");
        for (int knots = 1; knots <= 8; knots++) {
            check.due("22: " + knots + " knots", Check.shrub(x, "0".repeat(knots)), knots - 1);
            check.due("23: " + knots + " knots", x.knots(knots - 1), knots);
        }
        notKept(x, "0".repeat(9));
        notKept(x, "0".repeat(40));
        notKept(x, "001234567");
        refuse("23: no more are kept", INDEX, () -> x.knots(8));
    }

    private void theRootIs0() {
        Operadry x = new Operadry();
        for (int sign = 1; sign <= 9; sign++) {
            notKept(x, "" + sign);
            notKept(x, sign + "0");
        }
        check.due("22: the root", Check.shrub(x, "0"), 0);
    }

    private void eachKnotHasALowerOne() {
        Operadry x = new Operadry();
        String way = "0";
        for (int knot = 1; knot < 8; knot++) {
            notKept(x, way + knot);
            notKept(x, way + (knot + 1));
            way += knot - 1;
            check.due("22: on the last knot, " + way, Check.shrub(x, way), knot - 1);
        }
        notKept(x, "0020000");
        notKept(x, "00000009");
        notKept(x, "09");
        refuse("23: no more are kept", INDEX, () -> x.knots(7));
    }

    private void twelveShrubs() {
        Operadry x = new Operadry();
        String[] rows = {"0", "00", "000", "0000", "00000", "000000", "0000000", "00000000", "001",
            "0012", "00123", "001234"};
        for (int shrub = 0; shrub < 12; shrub++) {
            int next = shrub;
            refuse("23: ahead of it", INDEX, () -> x.knots(next));
            check.due("22: the next number", Check.shrub(x, rows[shrub]), shrub);
        }
        check.due("23: the twelfth", x.knots(11), 6);
        Check.row(x, "0001");
        refuse("22: a thirteenth", IllegalStateException.class, x::shrub);
        refuse("23: no thirteenth", INDEX, () -> x.knots(12));
        check.due("22: like the first, when there are 12", Check.shrub(x, "0"), 0);
        check.due("22: like the last, when there are 12", Check.shrub(x, "001234"), 11);
        notKept(x, "02");
        notKept(x, "");
        notKept(x, "000000000");
    }

    private void likeOnesHaveOneNumber() {
        Operadry x = new Operadry();
        int first = Check.shrub(x, "00000011");
        check.due("22: typed again", Check.shrub(x, "00000011"), first);
        check.due("22: the other branch", Check.shrub(x, "00000055"), first);
        check.due("22: as it grows", Check.shrub(x, "00110000"), first);
        check.due("22: one knot moved", Check.shrub(x, "00000012"), first + 1);
        check.due("22: the last knot moved", Check.shrub(x, "00000010"), first + 2);
        check.due("22: a way", Check.shrub(x, "00123456"), first + 3);
        check.due("22: a way but for its end", Check.shrub(x, "00123455"), first + 4);
    }

    private void numbersOfShrubs() {
        Operadry x = new Operadry();
        Check.shrub(x, "0");
        Check.shrub(x, "00");
        for (int shrub : new int[] {-1, 2}) {
            refuse("23: " + shrub, INDEX, () -> x.knots(shrub));
            refuse("24: " + shrub, INDEX, () -> x.symmetry(shrub));
            refuse("25: " + shrub, INDEX, () -> x.density(shrub));
            refuse("26: " + shrub, INDEX, () -> x.growths(shrub));
            refuse("27: " + shrub, INDEX, () -> x.cuts(shrub, 0));
            refuse("27: trunk " + shrub, INDEX, () -> x.cuts(0, shrub));
            refuse("28: " + shrub, INDEX, () -> x.grafts(shrub, 0, 1));
            refuse("28: graft " + shrub, INDEX, () -> x.grafts(0, shrub, 1));
            refuse("28: result " + shrub, INDEX, () -> x.grafts(0, 0, shrub));
        }
        check.due("23: first", x.knots(0), 1);
        check.due("23: last", x.knots(1), 2);
        check.due("28: first and last", x.grafts(0, 0, 1), 1);
    }

    private void leastAndGreatestSymmetry() {
        Operadry x = new Operadry();
        int factorial = 1;
        for (int knots = 1; knots <= 8; knots++) {
            factorial *= Math.max(1, knots - 1);
            check.due("24: a star of " + knots, x.symmetry(Check.shrub(x, "0".repeat(knots))),
                    factorial);
        }
        check.due("24: a way of 8", x.symmetry(Check.shrub(x, "00123456")), 1);
        check.due("24: one pair alone", x.symmetry(Check.shrub(x, "00123455")), 2);
        check.due("24: two like parts", x.symmetry(Check.shrub(x, "0001122")), 8);
    }

    private void leastAndGreatestDensity() {
        Operadry x = new Operadry();
        int factorial = 1;
        String way = "0";
        for (int knots = 1; knots <= 8; knots++) {
            factorial *= knots;
            check.due("25: a way of " + knots, x.density(Check.shrub(x, way)), factorial);
            way += knots - 1;
        }
        check.due("25: a star of 8", x.density(Check.shrub(x, "00000000")), 8);
    }

    private void leastAndGreatestGrowths() {
        Operadry x = new Operadry();
        int factorial = 1;
        for (int knots = 1; knots <= 8; knots++) {
            factorial *= Math.max(1, knots - 1);
            check.due("26: a star of " + knots, x.growths(Check.shrub(x, "0".repeat(knots))),
                    factorial);
        }
        check.due("26: a way of 8", x.growths(Check.shrub(x, "00123456")), 1);
        check.due("26: one branch aside", x.growths(Check.shrub(x, "00123450")), 7);
    }

    private void trunksFromOneKnotToAll() {
        Operadry x = new Operadry();
        String way = "0";
        for (int knots = 1; knots <= 8; knots++) {
            Check.shrub(x, way);
            way += knots - 1;
        }
        for (int whole = 0; whole < 8; whole++) {
            for (int trunk = 0; trunk < 8; trunk++) {
                check.due("27: a way of " + (whole + 1) + ", trunk " + (trunk + 1),
                        x.cuts(whole, trunk), trunk <= whole ? 1 : 0);
            }
        }
    }

    /** Of 8 knots none is cut, or one, or all but the root. */
    private void cutsOfEightKnots() {
        Operadry x = new Operadry();
        int star = Check.shrub(x, "00000000");
        int[] due = {1, 7, 21, 35, 35, 21, 7, 1};
        for (int knots = 1; knots <= 8; knots++) {
            check.due("27: star of 8, trunk " + knots,
                    x.cuts(star, Check.shrub(x, "0".repeat(knots))), due[knots - 1]);
        }
        check.due("27: an unlike one as large", x.cuts(star, Check.shrub(x, "00000001")), 0);
        check.due("27: a like one that was typed otherwise",
                x.cuts(Check.shrub(x, "00000011"), Check.shrub(x, "00110000")), 1);
    }

    private void graftsUpToEightKnots() {
        Operadry x = new Operadry();
        int knot = Check.shrub(x, "0");
        int seven = Check.shrub(x, "0000000");
        int eight = Check.shrub(x, "00000000");
        int other = Check.shrub(x, "00000001");
        int crown = Check.shrub(x, "00111111");
        check.due("28: one on seven, at the root", x.grafts(seven, knot, eight), 1);
        check.due("28: one on seven, at the others", x.grafts(seven, knot, other), 6);
        check.due("28: seven on one", x.grafts(knot, seven, crown), 1);
        check.due("28: seven on one, not by a branch", x.grafts(knot, seven, eight), 0);
        check.due("28: one on eight", x.grafts(eight, knot, eight), 0);
        check.due("28: seven on seven", x.grafts(seven, seven, eight), 0);
        check.due("28: a result with one knot less", x.grafts(seven, knot, seven), 0);
        check.due("28: a result with one knot more", x.grafts(knot, knot, eight), 0);
    }

    private void graftsOnEachKnot() {
        Operadry x = new Operadry();
        int way = Check.shrub(x, "0012345");
        int knot = Check.shrub(x, "0");
        String[] results = {"00123450", "00123451", "00123452", "00123453", "00123454", "00123455",
            "00123456"};
        for (String result : results) {
            check.due("28: on one knot, " + result, x.grafts(way, knot, Check.shrub(x, result)),
                    1);
        }
        Operadry y = new Operadry();
        int half = Check.shrub(y, "0012");
        for (String result : new String[] {"00120456", "00121456", "00122456", "00123456"}) {
            check.due("28: a way on a way, " + result, y.grafts(half, half, Check.shrub(y, result)),
                    1);
        }
        check.due("28: a way on a way, not turned",
                y.grafts(half, half, Check.shrub(y, "00120455")), 0);
    }
}
