/** Objects in which something is kept, some of it as much as can be. */
final class Made {
    /** Trees that are kept in a half full object. */
    static final int INPUT = 0;
    static final int PAIR = 1;
    static final int WIDE = 3;
    static final int LEFT = 4;
    static final int RIGHT = 5;
    static final int RULED = 6;
    static final int THREE = 7;
    static final int HALF_TREES = 9;

    /** Sums of a half full object. */
    static final int NO_TERMS = 0;
    static final int TWO_TERMS = 1;
    static final int OF_PAIR = 2;
    static final int OF_RULED = 3;
    static final int OF_THREE = 4;
    static final int HALF_SUMS = 5;

    static final int HALF_SHRUBS = 3;
    static final int HALF_WORDS = 4;
    static final int HALF_STAGES = 2;

    /** Trees that are kept in a full object. */
    static final int FIRST_RULED = 5;
    static final int NOT_RULED = 13;
    static final int FOUR = 37;
    static final int EIGHT = 38;
    static final int FIVE = 39;

    /** Trees and sums of an object with amounts at the ends of a long. */
    static final int HIGH = 0;
    static final int LOW = 1;
    static final int LEAST = 3;
    static final int GREATEST = 4;
    static final int TOO_MUCH = 5;

    private Made() {
    }

    static Operadry with(int... widths) {
        Operadry x = new Operadry();
        for (int width : widths) {
            x.operation(width);
        }
        return x;
    }

    /** An object with two narrow operations and a wide one, and a row that is typed. */
    static Operadry half(String row) {
        Operadry x = with(2, 2, 3);
        for (String tree : new String[] {"9", "099", "199", "2999", "00999", "09099", "10999",
            "0009999", "2299999"}) {
            Check.tree(x, tree);
        }
        for (int sum = 0; sum < HALF_SUMS; sum++) {
            x.sum();
        }
        x.add(TWO_TERMS, LEFT, -3);
        x.add(TWO_TERMS, RIGHT, 7);
        x.add(OF_PAIR, PAIR, 1);
        x.add(OF_RULED, RULED, 4);
        x.add(OF_THREE, THREE, 1);
        x.rule(RULED, TWO_TERMS);
        for (String shrub : new String[] {"0", "00", "001"}) {
            Check.shrub(x, shrub);
        }
        for (String word : new String[] {"0", "01", "10", "0101"}) {
            Check.word(x, word);
        }
        x.stages(HALF_STAGES);
        x.step(1, 0, 1, 2);
        x.last(0, 1, 3);
        x.last(1, 2, 3);
        Check.row(x, row);
        return x;
    }

    /** An object in which all places are taken, and a row that is typed. */
    static Operadry full(String row) {
        Operadry x = with(2, 2, 2, 2);
        keepFortyTrees(x);
        for (int sum = 0; sum < 10; sum++) {
            x.sum();
        }
        x.add(1, NOT_RULED, 99);
        x.add(9, FOUR, -99);
        for (int rule = 0; rule < 8; rule++) {
            x.rule(FIRST_RULED + rule, 0);
        }
        x.wipe();
        for (int knot = 0; knot < 8; knot++) {
            x.type(0);
            x.shrub();
            x.word();
        }
        x.wipe();
        x.type(0);
        x.type(0);
        for (int knot = 1; knot < 5; knot++) {
            x.type(knot);
            x.shrub();
        }
        x.wipe();
        for (int letter = 1; letter < 5; letter++) {
            x.type(1);
            x.word();
        }
        x.stages(4);
        x.step(0, 1, 1, 2);
        x.step(3, 3, -99, 99);
        x.last(0, 1, 3);
        x.last(3, 2, 3);
        Check.row(x, row);
        return x;
    }

    /** The input, all trees with one operation or two of four, and trees with 4, 8 and 5. */
    static void keepFortyTrees(Operadry x) {
        Check.tree(x, "9");
        for (int one = 0; one < 4; one++) {
            Check.tree(x, one + "99");
        }
        for (int input = 1; input >= 0; input--) {
            for (int pair = 0; pair < 16; pair++) {
                x.compose(1 + pair / 4, input, 1 + pair % 4);
            }
        }
        int left = FOUR - 16;
        x.compose(left, 0, left);
        x.compose(FOUR, 0, FOUR);
        x.compose(FOUR, 0, 1);
    }

    /**
     * Pairs of an operation at the right come to the next lower one with 64 times the amount: six
     * of them on one another, in nine steps, with 2 to the 54th.
     */
    static Operadry ladder() {
        Operadry x = with(2, 2, 2, 2);
        Check.tree(x, "3939393939399");
        Check.tree(x, "0909090909099");
        x.rule(Check.tree(x, "39399"), Check.sum(x, "64 29299"));
        x.rule(Check.tree(x, "29299"), Check.sum(x, "64 19199"));
        x.rule(Check.tree(x, "19199"), Check.sum(x, "64 09099"));
        return x;
    }

    /** A sum with the least long, one with the greatest, and one that comes to one more. */
    static Operadry ends() {
        Operadry x = ladder();
        for (int sum = LEAST; sum <= TOO_MUCH; sum++) {
            x.sum();
        }
        addMany(x, LEAST, HIGH, -512);
        x.reduce(LEAST);
        x.add(GREATEST, HIGH, 1);
        x.reduce(GREATEST);
        x.add(GREATEST, LOW, -1);
        addMany(x, GREATEST, HIGH, 511);
        x.reduce(GREATEST);
        addMany(x, TOO_MUCH, HIGH, 512);
        x.wipe();
        return x;
    }

    static void addMany(Operadry x, int sum, int tree, int amount) {
        int rest = amount;
        for (int i = 0; i < 8; i++) {
            int now = Math.max(-99, Math.min(99, rest));
            x.add(sum, tree, now);
            rest -= now;
        }
    }
}
