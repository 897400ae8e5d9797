/**
 * What the calls show of an object, in parts, so that none needs more calls than an object is used
 * for. The calls of a part may change the object: each part is told of a new one.
 */
final class State {
    static final int PARTS = 11;

    private static final int TREES = 40;
    private static final int TREES_IN_PART = 10;
    private static final int LONGEST_ROW = 25;
    private static final int SUMS = 10;
    private static final int TERMS_TOLD = 6;
    private static final int SHRUBS = 12;
    private static final int STAGES = 4;
    private static final int WORDS = 12;
    private static final int LETTERS = 8;
    private static final int TYPED = 40;

    private final Operadry x;
    private final StringBuilder told = new StringBuilder();

    private State(Operadry x) {
        this.x = x;
    }

    static String tell(Operadry x, int part) {
        State state = new State(x);
        switch (part) {
            case 0 -> state.tellTyped();
            case 1, 2, 3, 4 -> state.tellTrees((part - 1) * TREES_IN_PART);
            case 5 -> state.tellSums();
            case 6 -> state.tellRules();
            case 7 -> state.tellShrubs();
            case 8 -> state.tellMethod();
            case 9 -> state.tellWords();
            default -> state.tellPlaces();
        }
        return state.told.toString();
    }

    /** An answer, or the name of the exception; tells whether it was an answer. */
    private boolean put(Check.Call call) {
        String answer;
        boolean isAnswer = true;
        try {
            answer = Long.toString(call.run());
        } catch (RuntimeException e) {
            answer = e.getClass().getSimpleName();
            isAnswer = false;
        }
        told.append(answer).append(' ');
        return isAnswer;
    }

    private void tellTyped() {
        put(x::tree);
        put(x::shrub);
        put(x::word);
        for (int i = 0; i <= TYPED; i++) {
            put(() -> x.type(1));
        }
        put(x::wipe);
    }

    private void tellTrees(int first) {
        for (int tree = first; tree <= first + TREES_IN_PART; tree++) {
            tellTree(tree, tree < first + TREES_IN_PART ? LONGEST_ROW : 0);
        }
    }

    private void tellTree(int tree, int places) {
        boolean isThere = put(() -> x.inputs(tree));
        for (int i = 0; i < places && isThere; i++) {
            int place = i;
            isThere = put(() -> x.signAt(tree, place));
        }
    }

    private void tellSums() {
        put(x::checksum);
        put(() -> Double.doubleToLongBits(x.meanTerms()));
        for (int i = 0; i <= SUMS; i++) {
            int sum = i;
            boolean isThere = put(() -> x.terms(sum));
            for (int j = 0; j < TERMS_TOLD && isThere; j++) {
                int term = j;
                isThere = put(() -> x.amount(sum, term));
                put(() -> x.termSign(sum, term, 1));
            }
        }
    }

    /** Rules that are still to be told show which left sides are told, and how many. */
    private void tellRules() {
        for (int i = 1; i <= 10; i++) {
            int inputs = i;
            put(() -> x.normals(inputs));
            put(() -> x.duals(inputs));
            put(() -> Float.floatToIntBits(x.normalShare(inputs)));
        }
        put(() -> Check.bit(x.isConfluent()));
        put(() -> Check.bit(x.isInverse(8)));
        put(() -> Check.bit(x.isSound()));
        for (int i = 0; i <= TREES; i++) {
            int tree = i;
            put(() -> Check.bit(x.isNormal(tree)));
        }
        for (int i = 0; i <= TREES; i++) {
            int tree = i;
            put(() -> x.rule(tree, 0));
        }
    }

    private void tellShrubs() {
        for (int i = 0; i <= SHRUBS; i++) {
            int shrub = i;
            put(() -> x.knots(shrub));
            put(() -> x.symmetry(shrub));
            put(() -> x.density(shrub));
            put(() -> x.growths(shrub));
        }
        for (int i = 0; i < SHRUBS * SHRUBS; i++) {
            int shrub = i / SHRUBS;
            int trunk = i % SHRUBS;
            put(() -> x.cuts(shrub, trunk));
        }
    }

    private void tellMethod() {
        put(x::order);
        for (int i = 0; i < SHRUBS; i++) {
            int shrub = i;
            put(() -> x.weight(shrub, true));
            put(() -> x.weight(shrub, false));
        }
        for (int i = 0; i <= STAGES; i++) {
            int stage = i;
            put(() -> x.step(stage, 0, 7, 9));
            put(() -> x.step(0, stage, 5, 9));
            put(() -> x.last(stage, 2, 7));
        }
        put(() -> x.stages(1));
    }

    private void tellWords() {
        for (int i = 0; i <= WORDS; i++) {
            int word = i;
            put(() -> x.factors(word));
            for (int j = 0; j < LETTERS; j++) {
                int index = j;
                put(() -> x.factor(word, index));
            }
            put(() -> x.bracketed(word, word));
            put(() -> x.shuffles(0, word, word));
        }
    }

    /** How much more can be made. */
    private void tellPlaces() {
        for (int i = 0; i < 5; i++) {
            put(() -> x.operation(2));
        }
        for (int i = 0; i <= SUMS; i++) {
            put(x::sum);
        }
        for (String row : new String[] {"9", "099", "00999", "09099", "0009999", "0099099"}) {
            Check.row(x, row);
            put(x::tree);
        }
        for (String row : new String[] {"0", "00", "000", "001", "0012", "00123456"}) {
            Check.row(x, row);
            put(x::shrub);
        }
        for (String row : new String[] {"0", "1", "2", "01", "012", "01201201"}) {
            Check.row(x, row);
            put(x::word);
        }
    }
}
