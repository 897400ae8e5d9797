import java.util.ArrayList;
import java.util.Arrays;
import java.util.NoSuchElementException;

/**
 * A foundry of compositions: trees of operations, sums of them with rules, shrubs, methods of
 * steps, words and faces. README.md tells how it is used; the document tells what it must do.
 */
public final class Operadry {
    private static final int NONE = -1;
    private static final int INPUT = 9;

    private static final int MOST_OPERATIONS = 4;
    private static final int LEAST_WIDTH = 2;
    private static final int MOST_WIDTH = 3;
    private static final int MOST_TYPED = 40;
    private static final int MOST_TREES = 40;
    private static final int MOST_IN_TREE = 8;
    private static final int MOST_SUMS = 10;
    private static final int MOST_RULES = 8;
    private static final int MOST_SHRUBS = 12;
    private static final int MOST_KNOTS = 8;
    private static final int MOST_STAGES = 4;
    private static final int MOST_WORDS = 12;
    private static final int MOST_LETTERS = 8;
    private static final int LAST_LETTER = 2;
    private static final int MOST_NUMBER = 99;

    private static final int MOST_COUNTED = 10;
    private static final int MOST_INVERTED = 8;
    private static final int MOST_WALKED = 4;
    private static final int MOST_FACED = 12;
    private static final int MOST_ALPHABET = 9;
    private static final int MOST_LYNDON = 12;
    private static final int MOST_ORDER = 5;

    // A kept tree has up to 17 inputs; rules may make each wide operation of it into two narrow
    // ones, so that a tree of a sum has up to 16 operations.
    private static final int MOST_INPUTS = 17;
    private static final int MOST_IN_TERM = 16;

    // Both operations of a left side have up to 3 inputs, and one of these is taken by the other.
    private static final int MOST_PIECES = 5;

    // Far above what the room for a run can hold: 64 terms in each block.
    private static final int MOST_BLOCKS = 1 << 18;
    private static final int MOST_STEPS = 1 << 30;

    private final Operations operations;
    private final Row typed;
    private final Row spelling;
    private final Row[] trees;
    private int treeCount;
    private final ArrayList<Block> spare;
    private final Total[] totals;
    private int totalCount;
    private final Rules rules;
    private final Rewriter rewriter;
    private final Census census;
    private final Shrub sketch;
    private final Shrub[] shrubs;
    private int shrubCount;
    private final Stepper stepper;
    private final Row[] words;
    private int wordCount;
    private final int[] ways;

    public Operadry() {
        operations = new Operations();
        typed = new Row();
        spelling = new Row();
        trees = new Row[MOST_TREES];
        spare = new ArrayList<>();
        totals = new Total[MOST_SUMS];
        rules = new Rules();
        rewriter = new Rewriter(operations, rules, spare);
        census = new Census(operations, rules);
        sketch = new Shrub();
        shrubs = new Shrub[MOST_SHRUBS];
        stepper = new Stepper();
        words = new Row[MOST_WORDS];
        ways = new int[MOST_LETTERS + 1];
    }

    public int operation(int inputs) throws IllegalArgumentException, IllegalStateException {
        if (inputs < LEAST_WIDTH || inputs > MOST_WIDTH) {
            throw new IllegalArgumentException("an operation has 2 or 3 inputs");
        }
        int number = operations.make(inputs);
        if (number == NONE) {
            throw new IllegalStateException("there are 4 operations");
        }
        return number;
    }

    public int type(int sign) throws IllegalArgumentException, IllegalStateException {
        if (sign < 0 || sign > INPUT) {
            throw new IllegalArgumentException("a sign is 0 to 9");
        }
        if (typed.length() >= MOST_TYPED) {
            throw new IllegalStateException("there are 40 signs");
        }
        typed.put(sign);
        return typed.length();
    }

    public int wipe() {
        int many = typed.length();
        typed.empty();
        return many;
    }

    public int tree() throws UnsupportedOperationException, IllegalStateException {
        if (!operations.isTree(typed) || typed.operators() > MOST_IN_TREE) {
            throw new UnsupportedOperationException("the row is no tree that can be kept");
        }
        int number = keepTree(typed);
        if (number == NONE) {
            throw new IllegalStateException("there are 40 trees");
        }
        return number;
    }

    public int inputs(int tree) throws IndexOutOfBoundsException {
        Row row = treeRow(tree);
        if (row == null) {
            throw new IndexOutOfBoundsException("no such tree");
        }
        return row.leaves();
    }

    public int signAt(int tree, int place) throws IndexOutOfBoundsException, NoSuchElementException {
        Row row = treeRow(tree);
        if (row == null) {
            throw new IndexOutOfBoundsException("no such tree");
        }
        if (!row.has(place)) {
            throw new NoSuchElementException("no such place");
        }
        return row.at(place);
    }

    public int compose(int tree, int input, int other)
            throws IndexOutOfBoundsException, NoSuchElementException, UnsupportedOperationException,
            IllegalStateException {
        Row below = treeRow(tree);
        Row above = treeRow(other);
        if (below == null || above == null) {
            throw new IndexOutOfBoundsException("no such tree");
        }
        if (input < 0 || input >= below.leaves()) {
            throw new NoSuchElementException("no such input");
        }
        if (below.operators() + above.operators() > MOST_IN_TREE) {
            throw new UnsupportedOperationException("more than 8 operations");
        }
        int place = below.placeOfLeaf(input);
        spelling.empty();
        spelling.putPart(below, 0, place);
        spelling.putPart(above, 0, above.length());
        spelling.putPart(below, place + 1, below.length());
        int number = keepTree(spelling);
        if (number == NONE) {
            throw new IllegalStateException("there are 40 trees");
        }
        return number;
    }

    public int compare(int one, int other) throws IndexOutOfBoundsException {
        Row first = treeRow(one);
        Row second = treeRow(other);
        if (first == null || second == null) {
            throw new IndexOutOfBoundsException("no such tree");
        }
        int firstLeaves = first.leaves();
        int secondLeaves = second.leaves();
        if (firstLeaves != secondLeaves) {
            return firstLeaves < secondLeaves ? -1 : 1;
        }
        long firstCode = operations.codeOf(first);
        long secondCode = operations.codeOf(second);
        if (firstCode == secondCode) {
            return 0;
        }
        return firstCode < secondCode ? -1 : 1;
    }

    public int sum() throws IllegalStateException {
        if (totalCount >= MOST_SUMS) {
            throw new IllegalStateException("there are 10 sums");
        }
        totals[totalCount] = new Total(spare);
        totalCount++;
        return totalCount - 1;
    }

    public long add(int sum, int tree, int amount)
            throws IndexOutOfBoundsException, IllegalArgumentException, UnsupportedOperationException,
            ArithmeticException {
        Total total = totalAt(sum);
        Row row = treeRow(tree);
        if (total == null || row == null) {
            throw new IndexOutOfBoundsException("no such sum or tree");
        }
        if (amount < -MOST_NUMBER || amount > MOST_NUMBER) {
            throw new IllegalArgumentException("an amount is -99 to 99");
        }
        int leaves = row.leaves();
        if (!total.takes(leaves)) {
            throw new UnsupportedOperationException("another number of inputs");
        }
        long code = operations.codeOf(row);
        if (!total.gather(code, amount, 1)) {
            throw new ArithmeticException("beyond a long");
        }
        total.setWidth(leaves);
        return total.amountOf(code);
    }

    public int terms(int sum) throws IndexOutOfBoundsException {
        Total total = totalAt(sum);
        if (total == null) {
            throw new IndexOutOfBoundsException("no such sum");
        }
        return total.size();
    }

    public long amount(int sum, int term) throws IndexOutOfBoundsException, NoSuchElementException {
        Total total = totalAt(sum);
        if (total == null) {
            throw new IndexOutOfBoundsException("no such sum");
        }
        if (term < 0 || term >= total.size()) {
            throw new NoSuchElementException("no such term");
        }
        return total.amountAt(term);
    }

    public int termSign(int sum, int term, int place)
            throws IndexOutOfBoundsException, NoSuchElementException {
        Total total = totalAt(sum);
        if (total == null) {
            throw new IndexOutOfBoundsException("no such sum");
        }
        if (term < 0 || term >= total.size()) {
            throw new NoSuchElementException("no such term");
        }
        operations.spell(total.codeAt(term), spelling);
        if (!spelling.has(place)) {
            throw new NoSuchElementException("no such place");
        }
        return spelling.at(place);
    }

    public int rule(int tree, int sum)
            throws IndexOutOfBoundsException, UnsupportedOperationException, IllegalStateException {
        Row left = treeRow(tree);
        Total right = totalAt(sum);
        if (left == null || right == null) {
            throw new IndexOutOfBoundsException("no such tree or sum");
        }
        if (left.operators() != 2) {
            throw new UnsupportedOperationException("a left side has two operations");
        }
        int key = keyOf(left);
        if (rules.has(key) || !right.isBelow(left.leaves(), operations.codeOf(left))) {
            throw new UnsupportedOperationException("a left side already, or not greater");
        }
        if (rules.count() >= MOST_RULES) {
            throw new IllegalStateException("there are 8 rules");
        }
        rules.tell(key, right);
        return rules.count();
    }

    public int reduce(int sum) throws IndexOutOfBoundsException, ArithmeticException {
        Total total = totalAt(sum);
        if (total == null) {
            throw new IndexOutOfBoundsException("no such sum");
        }
        if (!rewriter.rewriteTotal(total)) {
            throw new ArithmeticException("beyond a long");
        }
        totals[sum] = rewriter.swapResult(total);
        return totals[sum].size();
    }

    public boolean isNormal(int tree) throws IndexOutOfBoundsException {
        Row row = treeRow(tree);
        if (row == null) {
            throw new IndexOutOfBoundsException("no such tree");
        }
        return rewriter.meets(row) == 0;
    }

    public long normals(int inputs) throws IllegalArgumentException {
        if (inputs < 1 || inputs > MOST_COUNTED) {
            throw new IllegalArgumentException("inputs are 1 to 10");
        }
        return census.count(Census.NORMAL, inputs);
    }

    public long duals(int inputs) throws IllegalArgumentException {
        if (inputs < 1 || inputs > MOST_COUNTED) {
            throw new IllegalArgumentException("inputs are 1 to 10");
        }
        return census.count(Census.DUAL, inputs);
    }

    public boolean isConfluent() throws ArithmeticException {
        boolean isSame = true;
        for (int one = 0; one < rules.count(); one++) {
            for (int other = 0; other < rules.count(); other++) {
                int chain = rewriter.compareChain(rules.keyAt(one), rules.keyAt(other));
                int fork = rewriter.compareFork(rules.keyAt(one), rules.keyAt(other));
                if (chain == Rewriter.BEYOND || fork == Rewriter.BEYOND) {
                    throw new ArithmeticException("beyond a long");
                }
                isSame = isSame && chain == Rewriter.SAME && fork == Rewriter.SAME;
            }
        }
        return isSame;
    }

    public boolean isInverse(int inputs)
            throws IllegalArgumentException, UnsupportedOperationException {
        if (inputs < 1 || inputs > MOST_INVERTED) {
            throw new IllegalArgumentException("inputs are 1 to 8");
        }
        if (operations.hasWidth(MOST_WIDTH)) {
            throw new UnsupportedOperationException("an operation has 3 inputs");
        }
        return census.isInverseUpTo(inputs);
    }

    public int shrub() throws UnsupportedOperationException, IllegalStateException {
        if (!sketch.read(typed)) {
            throw new UnsupportedOperationException("the row is no shrub");
        }
        int code = sketch.code();
        for (int i = 0; i < shrubCount; i++) {
            if (shrubs[i].code() == code) {
                return i;
            }
        }
        if (shrubCount >= MOST_SHRUBS) {
            throw new IllegalStateException("there are 12 shrubs");
        }
        Shrub kept = new Shrub();
        kept.read(typed);
        shrubs[shrubCount] = kept;
        shrubCount++;
        return shrubCount - 1;
    }

    public int knots(int shrub) throws IndexOutOfBoundsException {
        Shrub asked = shrubAt(shrub);
        if (asked == null) {
            throw new IndexOutOfBoundsException("no such shrub");
        }
        return asked.size();
    }

    public int symmetry(int shrub) throws IndexOutOfBoundsException {
        Shrub asked = shrubAt(shrub);
        if (asked == null) {
            throw new IndexOutOfBoundsException("no such shrub");
        }
        return asked.countSymmetry();
    }

    public int density(int shrub) throws IndexOutOfBoundsException {
        Shrub asked = shrubAt(shrub);
        if (asked == null) {
            throw new IndexOutOfBoundsException("no such shrub");
        }
        return asked.countDensity();
    }

    public int growths(int shrub) throws IndexOutOfBoundsException {
        Shrub asked = shrubAt(shrub);
        if (asked == null) {
            throw new IndexOutOfBoundsException("no such shrub");
        }
        return asked.countGrowths();
    }

    public int cuts(int shrub, int trunk) throws IndexOutOfBoundsException {
        Shrub whole = shrubAt(shrub);
        Shrub part = shrubAt(trunk);
        if (whole == null || part == null) {
            throw new IndexOutOfBoundsException("no such shrub");
        }
        return whole.countTrunks(part);
    }

    public int grafts(int shrub, int graft, int result) throws IndexOutOfBoundsException {
        Shrub base = shrubAt(shrub);
        Shrub top = shrubAt(graft);
        Shrub third = shrubAt(result);
        if (base == null || top == null || third == null) {
            throw new IndexOutOfBoundsException("no such shrub");
        }
        if (base.size() + top.size() != third.size()) {
            return 0;
        }
        int code = third.code();
        int many = 0;
        for (int knot = 0; knot < base.size(); knot++) {
            sketch.join(base, top, knot);
            if (sketch.code() == code) {
                many++;
            }
        }
        return many;
    }

    public int stages(int stages) throws IllegalArgumentException {
        if (stages < 1 || stages > MOST_STAGES) {
            throw new IllegalArgumentException("stages are 1 to 4");
        }
        return stepper.restart(stages);
    }

    public int step(int from, int to, int upper, int lower)
            throws IndexOutOfBoundsException, IllegalArgumentException {
        if (!stepper.has(from) || !stepper.has(to)) {
            throw new IndexOutOfBoundsException("no such stage");
        }
        if (!isFraction(upper, lower)) {
            throw new IllegalArgumentException("a number is out of range");
        }
        return stepper.tellStep(from, to, upper, lower);
    }

    public int last(int stage, int upper, int lower)
            throws IndexOutOfBoundsException, IllegalArgumentException {
        if (!stepper.has(stage)) {
            throw new IndexOutOfBoundsException("no such stage");
        }
        if (!isFraction(upper, lower)) {
            throw new IllegalArgumentException("a number is out of range");
        }
        return stepper.tellLast(stage, upper, lower);
    }

    public long weight(int shrub, boolean isUpper)
            throws IndexOutOfBoundsException, ArithmeticException {
        Shrub asked = shrubAt(shrub);
        if (asked == null) {
            throw new IndexOutOfBoundsException("no such shrub");
        }
        stepper.weigh(asked);
        if (isUpper) {
            if (!stepper.isUpperLong()) {
                throw new ArithmeticException("beyond a long");
            }
            return stepper.upper();
        }
        long lower = stepper.lower();
        if (lower == 0) {
            throw new ArithmeticException("beyond a long");
        }
        return lower;
    }

    public int order() {
        return stepper.countOrder(sketch);
    }

    public int word() throws UnsupportedOperationException, IllegalStateException {
        if (!Letters.isWord(typed)) {
            throw new UnsupportedOperationException("the row is no word");
        }
        for (int i = 0; i < wordCount; i++) {
            if (words[i].isLike(typed)) {
                return i;
            }
        }
        if (wordCount >= MOST_WORDS) {
            throw new IllegalStateException("there are 12 words");
        }
        words[wordCount] = typed.copy();
        wordCount++;
        return wordCount - 1;
    }

    public int factors(int word) throws IndexOutOfBoundsException {
        Row row = wordRow(word);
        if (row == null) {
            throw new IndexOutOfBoundsException("no such word");
        }
        return Letters.countFactors(row);
    }

    public int factor(int word, int index) throws IndexOutOfBoundsException, NoSuchElementException {
        Row row = wordRow(word);
        if (row == null) {
            throw new IndexOutOfBoundsException("no such word");
        }
        if (index < 0 || index >= Letters.countFactors(row)) {
            throw new NoSuchElementException("no such factor");
        }
        return Letters.factorLength(row, index);
    }

    public int bracketed(int word, int other)
            throws IndexOutOfBoundsException, UnsupportedOperationException {
        Row bracket = wordRow(word);
        Row asked = wordRow(other);
        if (bracket == null || asked == null) {
            throw new IndexOutOfBoundsException("no such word");
        }
        if (!Letters.isLyndon(bracket, 0, bracket.length())) {
            throw new UnsupportedOperationException("no Lyndon word");
        }
        if (bracket.length() != asked.length()) {
            return 0;
        }
        return Letters.bracketAmount(bracket, asked);
    }

    public int shuffles(int one, int other, int word) throws IndexOutOfBoundsException {
        Row first = wordRow(one);
        Row second = wordRow(other);
        Row asked = wordRow(word);
        if (first == null || second == null || asked == null) {
            throw new IndexOutOfBoundsException("no such word");
        }
        return Letters.countShuffles(first, second, asked, ways);
    }

    public long lyndons(int letters, int length) throws IllegalArgumentException {
        if (letters < 1 || letters > MOST_ALPHABET || length < 1 || length > MOST_LYNDON) {
            throw new IllegalArgumentException("letters are 1 to 9, the length 1 to 12");
        }
        return Letters.countLyndon(letters, length);
    }

    public long faces(int inputs, int dimension) throws IllegalArgumentException {
        if (inputs < 2 || inputs > MOST_FACED) {
            throw new IllegalArgumentException("inputs are 2 to 12");
        }
        if (dimension < 0 || dimension > inputs - 2) {
            return 0;
        }
        int nodes = inputs - 1 - dimension;
        return Census.choose(inputs - 2, nodes - 1) * Census.choose(inputs + nodes - 1, nodes - 1)
                / nodes;
    }

    public long checksum() {
        long check = 7;
        for (int sum = 0; sum < totalCount; sum++) {
            Total total = totals[sum];
            for (int term = 0; term < total.size(); term++) {
                check = 31 * check + total.amountAt(term);
                operations.spell(total.codeAt(term), spelling);
                for (int place = 0; place < spelling.length(); place++) {
                    check = 31 * check + spelling.at(place);
                }
            }
        }
        return check;
    }

    public float normalShare(int inputs) throws IllegalArgumentException, ArithmeticException {
        if (inputs < 1 || inputs > MOST_COUNTED) {
            throw new IllegalArgumentException("inputs are 1 to 10");
        }
        long all = census.count(Census.ALL, inputs);
        if (all == 0) {
            throw new ArithmeticException("there are no trees");
        }
        return (float) census.count(Census.NORMAL, inputs) / (float) all;
    }

    public double meanTerms() throws ArithmeticException {
        if (totalCount == 0) {
            throw new ArithmeticException("there are no sums");
        }
        long all = 0;
        for (int sum = 0; sum < totalCount; sum++) {
            all += totals[sum].size();
        }
        return (double) all / (double) totalCount;
    }

    public boolean isSound() {
        return areCountsSound() && areRulesSound() && areShrubsSound() && areWordsSound();
    }

    private boolean areCountsSound() {
        for (int inputs = 1; inputs <= MOST_WALKED; inputs++) {
            rewriter.walkAll(inputs);
            if (census.count(Census.NORMAL, inputs) != rewriter.walkedNormal()
                    || census.count(Census.DUAL, inputs) != rewriter.walkedDual()) {
                return false;
            }
        }
        return true;
    }

    private boolean areRulesSound() {
        for (int number = 0; number < rules.count(); number++) {
            int key = rules.keyAt(number);
            operations.spellLeft(key, spelling);
            Total right = rules.rightOf(key);
            if (right == null || !right.isBelow(spelling.leaves(), operations.codeOf(spelling))) {
                return false;
            }
        }
        return true;
    }

    private boolean areShrubsSound() {
        for (int i = 0; i < shrubCount; i++) {
            int product = 1;
            for (int knot = 1; knot <= shrubs[i].size(); knot++) {
                product *= knot;
            }
            if (shrubs[i].countGrowths() * shrubs[i].countDensity() != product) {
                return false;
            }
        }
        return true;
    }

    private boolean areWordsSound() {
        for (int i = 0; i < wordCount; i++) {
            if (!Letters.isPutTogether(words[i], spelling)) {
                return false;
            }
        }
        return true;
    }

    private Row treeRow(int tree) {
        return tree >= 0 && tree < treeCount ? trees[tree] : null;
    }

    private Total totalAt(int sum) {
        return sum >= 0 && sum < totalCount ? totals[sum] : null;
    }

    private Shrub shrubAt(int shrub) {
        return shrub >= 0 && shrub < shrubCount ? shrubs[shrub] : null;
    }

    private Row wordRow(int word) {
        return word >= 0 && word < wordCount ? words[word] : null;
    }

    /** The number of the tree of a row, which is kept if it is new; NONE if there is no room. */
    private int keepTree(Row row) {
        for (int i = 0; i < treeCount; i++) {
            if (trees[i].isLike(row)) {
                return i;
            }
        }
        if (treeCount >= MOST_TREES) {
            return NONE;
        }
        trees[treeCount] = row.copy();
        treeCount++;
        return treeCount - 1;
    }

    /** The key of a tree with two operations; only inputs stand between them in its row. */
    private static int keyOf(Row left) {
        int place = 1;
        while (place < left.length() && left.at(place) == INPUT) {
            place++;
        }
        return Rules.key(left.at(0), place - 1, left.at(place));
    }

    private static boolean isFraction(int upper, int lower) {
        return upper >= -MOST_NUMBER && upper <= MOST_NUMBER && lower >= 1 && lower <= MOST_NUMBER;
    }

    /** Signs in a row. Asked where it has none, it answers NONE. */
    private static final class Row {
        private final int[] signs = new int[MOST_TYPED];
        private int length;

        int length() {
            return length;
        }

        boolean has(int place) {
            return place >= 0 && place < length;
        }

        int at(int place) {
            return place >= 0 && place < length ? signs[place] : NONE;
        }

        void empty() {
            length = 0;
        }

        void cutTo(int shorter) {
            if (shorter >= 0 && shorter < length) {
                length = shorter;
            }
        }

        void put(int sign) {
            if (length < MOST_TYPED) {
                signs[length] = sign;
                length++;
            }
        }

        void putInputs(int many) {
            for (int i = 0; i < many; i++) {
                put(INPUT);
            }
        }

        void putPart(Row other, int from, int to) {
            int many = to - from;
            if (from < 0 || to > other.length || many <= 0 || many > MOST_TYPED - length) {
                return;
            }
            System.arraycopy(other.signs, from, signs, length, many);
            length += many;
        }

        Row copy() {
            Row same = new Row();
            same.putPart(this, 0, length);
            return same;
        }

        boolean isLike(Row other) {
            if (length != other.length) {
                return false;
            }
            for (int i = 0; i < length; i++) {
                if (signs[i] != other.signs[i]) {
                    return false;
                }
            }
            return true;
        }

        int leaves() {
            int many = 0;
            for (int i = 0; i < length; i++) {
                if (signs[i] == INPUT) {
                    many++;
                }
            }
            return many;
        }

        int operators() {
            return length - leaves();
        }

        int placeOfLeaf(int leaf) {
            int many = 0;
            for (int i = 0; i < length; i++) {
                if (signs[i] == INPUT) {
                    if (many == leaf) {
                        return i;
                    }
                    many++;
                }
            }
            return NONE;
        }
    }

    /** The operations, and what can be said of rows of them. */
    private static final class Operations {
        private static final int CODE_BITS = 64;

        private final int[] widths = new int[MOST_OPERATIONS];
        private int count;

        int make(int width) {
            if (count >= MOST_OPERATIONS) {
                return NONE;
            }
            widths[count] = width;
            count++;
            return count - 1;
        }

        int count() {
            return count;
        }

        int widthOf(int operator) {
            return operator >= 0 && operator < count ? widths[operator] : 0;
        }

        boolean hasWidth(int width) {
            for (int i = 0; i < count; i++) {
                if (widths[i] == width) {
                    return true;
                }
            }
            return false;
        }

        boolean isTree(Row row) {
            return row.length() > 0 && endOf(row, 0) == row.length();
        }

        /** Where the tree that begins at a place ends; NONE if none begins there. */
        int endOf(Row row, int from) {
            int open = 1;
            int place = from;
            while (open > 0 && place < row.length()) {
                int sign = row.at(place);
                int width = widthOf(sign);
                if (sign != INPUT && width == 0) {
                    return NONE;
                }
                open += width - 1;
                place++;
            }
            return open == 0 ? place : NONE;
        }

        /**
         * A number for a tree that is lower for a lower tree with as many inputs. Where the ways
         * ahead of an input are alike, its own way begins like the one before it, and is told by
         * the operations that stand between both in the row: a bit 1 for each, a bit 0, then two
         * bits for each. The last input's bit is always 0 and left out, so that 64 bits are
         * enough for 17 inputs and 16 operations; the top bit is turned, as a long has a sign.
         */
        long codeOf(Row row) {
            long code = 0;
            int bits = 0;
            int from = 0;
            int end = row.length() - 1;
            for (int place = 0; place < end; place++) {
                if (row.at(place) == INPUT) {
                    int many = place - from;
                    code = ((code << many) | ((1L << many) - 1)) << 1;
                    for (int i = from; i < place; i++) {
                        code = (code << 2) | row.at(i);
                    }
                    bits += 3 * many + 1;
                    from = place + 1;
                }
            }
            return (code << (CODE_BITS - bits)) ^ Long.MIN_VALUE;
        }

        void spell(long code, Row row) {
            long rest = code ^ Long.MIN_VALUE;
            int open = 1;
            row.empty();
            for (int leaf = 0; leaf < MOST_INPUTS && open > 0; leaf++) {
                int many = 0;
                while (many < MOST_IN_TERM && rest < 0) {
                    rest <<= 1;
                    many++;
                }
                rest <<= 1;
                for (int i = 0; i < many; i++) {
                    int operator = (int) (rest >>> 62);
                    rest <<= 2;
                    row.put(operator);
                    open += widthOf(operator) - 1;
                }
                row.put(INPUT);
                open--;
            }
        }

        void spellLeft(int key, Row row) {
            int upper = Rules.upperOf(key);
            int input = Rules.inputOf(key);
            int lower = Rules.lowerOf(key);
            row.empty();
            row.put(upper);
            row.putInputs(input);
            row.put(lower);
            row.putInputs(widthOf(lower) + widthOf(upper) - 1 - input);
        }
    }

    /** Terms of a sum that stand one behind the other, from the greatest tree on. */
    private static final class Block {
        private static final int ROOM = 64;

        private final long[] codes = new long[ROOM];
        private final long[] amounts = new long[ROOM];
        private int from;
        private int to;

        int size() {
            return to - from;
        }

        boolean isFull() {
            return to - from >= ROOM;
        }

        long codeAt(int place) {
            return place >= 0 && place < to - from ? codes[from + place] : 0;
        }

        long amountAt(int place) {
            return place >= 0 && place < to - from ? amounts[from + place] : 0;
        }

        void setAmount(int place, long amount) {
            if (place >= 0 && place < to - from) {
                amounts[from + place] = amount;
            }
        }

        void empty() {
            from = 0;
            to = 0;
        }

        /** The first place whose tree is not greater than a code, or the size. */
        int placeOf(long code) {
            int low = from;
            int high = to;
            while (low < high) {
                int middle = (low + high) >>> 1;
                if (codes[middle] > code) {
                    low = middle + 1;
                } else {
                    high = middle;
                }
            }
            return low - from;
        }

        /** Puts a term at a place; the shorter side makes way for it, if it can. */
        void insert(int place, long code, long amount) {
            int many = to - from;
            if (place < 0 || place > many || many >= ROOM) {
                return;
            }
            int at = from + place;
            if (from == 0 || (to < ROOM && 2 * place >= many)) {
                System.arraycopy(codes, at, codes, at + 1, many - place);
                System.arraycopy(amounts, at, amounts, at + 1, many - place);
                to++;
            } else {
                System.arraycopy(codes, from, codes, from - 1, place);
                System.arraycopy(amounts, from, amounts, from - 1, place);
                from--;
                at--;
            }
            codes[at] = code;
            amounts[at] = amount;
        }

        void remove(int place) {
            int many = to - from;
            if (place < 0 || place >= many) {
                return;
            }
            int at = from + place;
            if (2 * place < many) {
                System.arraycopy(codes, from, codes, from + 1, place);
                System.arraycopy(amounts, from, amounts, from + 1, place);
                from++;
            } else {
                System.arraycopy(codes, at + 1, codes, at, many - place - 1);
                System.arraycopy(amounts, at + 1, amounts, at, many - place - 1);
                to--;
            }
        }

        /** Gives the lower half of the terms to an empty block. */
        void halveInto(Block other) {
            int many = (to - from) / 2;
            to -= many;
            System.arraycopy(codes, to, other.codes, 0, many);
            System.arraycopy(amounts, to, other.amounts, 0, many);
            other.from = 0;
            other.to = many;
        }
    }

    /**
     * A sum: amounts of trees with as many inputs, from the greatest tree on, in blocks of which
     * none is without terms. Blocks that a sum needs no more are spare ones for all sums, so that
     * a sum that grows leaves no arrays behind.
     */
    private static final class Total {
        private static final long HALF = 0xFFFFFFFFL;

        private final ArrayList<Block> spare;
        private final ArrayList<Block> blocks = new ArrayList<>();
        private int size;
        private int width;
        private int soughtBlock;
        private int soughtPlace;
        private int nearBlock;
        private int nearStart;

        Total(ArrayList<Block> spare) {
            this.spare = spare;
        }

        int size() {
            return size;
        }

        int width() {
            return width;
        }

        void setWidth(int leaves) {
            width = leaves;
        }

        long codeAt(int term) {
            if (term < 0 || term >= size) {
                return 0;
            }
            goNear(term);
            return nearBlock < blocks.size() ? blocks.get(nearBlock).codeAt(term - nearStart) : 0;
        }

        long amountAt(int term) {
            if (term < 0 || term >= size) {
                return 0;
            }
            goNear(term);
            return nearBlock < blocks.size() ? blocks.get(nearBlock).amountAt(term - nearStart) : 0;
        }

        boolean takes(int leaves) {
            return size == 0 || width == leaves;
        }

        boolean isBelow(int leaves, long code) {
            return size == 0 || (width == leaves && codeAt(0) < code);
        }

        void empty(int leaves) {
            for (int i = blocks.size() - 1; i >= 0; i--) {
                spare.add(blocks.get(i));
            }
            blocks.clear();
            size = 0;
            width = leaves;
            forgetNear();
        }

        long amountOf(long code) {
            return seek(code) ? blocks.get(soughtBlock).amountAt(soughtPlace) : 0;
        }

        /** Adds a product to the amount of a tree; false if it would be beyond a long. */
        boolean gather(long code, long amount, long factor) {
            boolean isThere = seek(code);
            long old = isThere ? blocks.get(soughtBlock).amountAt(soughtPlace) : 0;
            if (!staysLong(old, amount, factor)) {
                return false;
            }
            long now = old + amount * factor;
            if (isThere && now != 0) {
                blocks.get(soughtBlock).setAmount(soughtPlace, now);
            } else if (isThere) {
                remove(soughtBlock, soughtPlace);
            } else if (now != 0) {
                return size == 0 ? append(code, now) : insert(code, now);
            }
            return true;
        }

        /** Puts a term behind all others; false if there is no room. */
        boolean append(long code, long amount) {
            int last = blocks.size() - 1;
            if (last < 0 || blocks.get(last).isFull()) {
                if (blocks.size() >= MOST_BLOCKS) {
                    return false;
                }
                blocks.add(takeSpare());
                last++;
            }
            Block block = blocks.get(last);
            block.insert(block.size(), code, amount);
            size++;
            return true;
        }

        void removeGreatest() {
            if (size > 0) {
                remove(0, 0);
            }
        }

        boolean isLike(Total other) {
            if (size != other.size) {
                return false;
            }
            for (int i = 0; i < size; i++) {
                if (codeAt(i) != other.codeAt(i) || amountAt(i) != other.amountAt(i)) {
                    return false;
                }
            }
            return true;
        }

        Total copy() {
            Total same = new Total(spare);
            same.width = width;
            for (int i = 0; i < size; i++) {
                same.append(codeAt(i), amountAt(i));
            }
            return same;
        }

        /** Goes from the block that was asked last to the one where a term stands. */
        private void goNear(int term) {
            while (nearBlock > 0 && term < nearStart) {
                nearBlock--;
                nearStart -= blocks.get(nearBlock).size();
            }
            while (nearBlock < blocks.size() - 1
                    && term >= nearStart + blocks.get(nearBlock).size()) {
                nearStart += blocks.get(nearBlock).size();
                nearBlock++;
            }
        }

        private void forgetNear() {
            nearBlock = 0;
            nearStart = 0;
        }

        /** Seeks the place of a tree, or the one where it belongs; tells whether it is there. */
        private boolean seek(long code) {
            int low = 1;
            int high = blocks.size();
            while (low < high) {
                int middle = (low + high) >>> 1;
                if (blocks.get(middle).codeAt(0) >= code) {
                    low = middle + 1;
                } else {
                    high = middle;
                }
            }
            soughtBlock = low - 1;
            soughtPlace = 0;
            if (soughtBlock >= blocks.size()) {
                return false;
            }
            Block block = blocks.get(soughtBlock);
            soughtPlace = block.placeOf(code);
            return soughtPlace < block.size() && block.codeAt(soughtPlace) == code;
        }

        /** Puts a term where it was sought; false if there is no room. */
        private boolean insert(long code, long amount) {
            if (soughtBlock >= blocks.size()) {
                return false;
            }
            Block block = blocks.get(soughtBlock);
            if (block.isFull()) {
                if (blocks.size() >= MOST_BLOCKS) {
                    return false;
                }
                Block lower = takeSpare();
                block.halveInto(lower);
                blocks.add(soughtBlock + 1, lower);
                if (soughtPlace > block.size()) {
                    soughtPlace -= block.size();
                    block = lower;
                }
            }
            block.insert(soughtPlace, code, amount);
            size++;
            forgetNear();
            return true;
        }

        private void remove(int number, int place) {
            if (number < 0 || number >= blocks.size()) {
                return;
            }
            Block block = blocks.get(number);
            block.remove(place);
            if (block.size() == 0) {
                blocks.remove(number);
                spare.add(block);
            }
            size--;
            forgetNear();
        }

        private Block takeSpare() {
            if (spare.isEmpty()) {
                return new Block();
            }
            Block block = spare.remove(spare.size() - 1);
            block.empty();
            return block;
        }

        /** Whether a number and a product are together a long, even if the product is none. */
        static boolean staysLong(long old, long amount, long factor) {
            long product = amount * factor;
            long low = old + product;
            long carry = (low ^ Long.MIN_VALUE) < (product ^ Long.MIN_VALUE) ? 1 : 0;
            long high = highOf(amount, factor) + (old >> 63) + carry;
            return high == low >> 63;
        }

        private static long highOf(long one, long other) {
            long oneLow = one & HALF;
            long oneHigh = one >> 32;
            long otherLow = other & HALF;
            long otherHigh = other >> 32;
            long middle = oneHigh * otherLow + ((oneLow * otherLow) >>> 32);
            long rest = (middle & HALF) + oneLow * otherHigh;
            return oneHigh * otherHigh + (middle >> 32) + (rest >> 32);
        }
    }

    /** The rules, found by a key that tells the two operations of a left side, and where. */
    private static final class Rules {
        private static final int KEYS = MOST_OPERATIONS * MOST_WIDTH * MOST_OPERATIONS;

        private final Total[] rights = new Total[KEYS];
        private final int[] keys = new int[MOST_RULES];
        private int count;

        static int key(int upper, int input, int lower) {
            boolean isLeft = upper >= 0 && upper < MOST_OPERATIONS && input >= 0
                    && input < MOST_WIDTH && lower >= 0 && lower < MOST_OPERATIONS;
            return isLeft ? (upper * MOST_WIDTH + input) * MOST_OPERATIONS + lower : NONE;
        }

        static int upperOf(int key) {
            return key / (MOST_WIDTH * MOST_OPERATIONS);
        }

        static int inputOf(int key) {
            return key / MOST_OPERATIONS % MOST_WIDTH;
        }

        static int lowerOf(int key) {
            return key % MOST_OPERATIONS;
        }

        int count() {
            return count;
        }

        int keyAt(int number) {
            return number >= 0 && number < count ? keys[number] : NONE;
        }

        Total rightOf(int key) {
            return key >= 0 && key < KEYS ? rights[key] : null;
        }

        boolean has(int key) {
            return rightOf(key) != null;
        }

        void tell(int key, Total right) {
            if (key < 0 || key >= KEYS || count >= MOST_RULES) {
                return;
            }
            rights[key] = right.copy();
            keys[count] = key;
            count++;
        }
    }

    /** Finds left sides in trees, and puts right sides in their place. */
    private static final class Rewriter {
        static final int SAME = 0;
        static final int UNLIKE = 1;
        static final int BEYOND = 2;

        private final Operations operations;
        private final Rules rules;
        private final Row tree = new Row();
        private final Row side = new Row();
        private final Row next = new Row();
        private final int[] openPlaces = new int[MOST_IN_TERM + 1];
        private final int[] openInputs = new int[MOST_IN_TERM + 1];
        private final int[] starts = new int[MOST_PIECES];
        private final int[] ends = new int[MOST_PIECES];
        private int pieces;
        private int metPlace;
        private int metInput;
        private long normalCount;
        private long dualCount;
        private final Total pool;
        private Total result;
        private Total former;

        Rewriter(Operations operations, Rules rules, ArrayList<Block> spare) {
            this.operations = operations;
            this.rules = rules;
            pool = new Total(spare);
            result = new Total(spare);
            former = new Total(spare);
        }

        long walkedNormal() {
            return normalCount;
        }

        long walkedDual() {
            return dualCount;
        }

        /** Gives the result away, and takes a total that is not needed any more for the next. */
        Total swapResult(Total used) {
            Total given = result;
            result = used;
            return given;
        }

        /** Reduces a total into the result; false if an amount would be beyond a long. */
        boolean rewriteTotal(Total total) {
            start(total.width());
            for (int term = 0; term < total.size(); term++) {
                if (!pool.append(total.codeAt(term), total.amountAt(term))) {
                    return false;
                }
            }
            return drain();
        }

        private void start(int width) {
            pool.empty(width);
            result.empty(width);
        }

        /**
         * What comes instead of a tree is lower; so a tree that is taken as the greatest one has
         * all of its amount, and stays as it is if it is normal.
         */
        private boolean drain() {
            for (int steps = 0; steps < MOST_STEPS && pool.size() > 0; steps++) {
                long code = pool.codeAt(0);
                long amount = pool.amountAt(0);
                pool.removeGreatest();
                operations.spell(code, tree);
                boolean isDone;
                if (meets(tree) == 0) {
                    isDone = result.append(code, amount);
                } else {
                    isDone = rewriteAt(metPlace, metInput, amount);
                }
                if (!isDone) {
                    return false;
                }
            }
            return pool.size() == 0;
        }

        /**
         * How many left sides are met in a tree; the first place is kept. The row is gone through
         * once with the operations that are still open; of two places the one whose upper
         * operation stands ahead comes first, and of one operation the input that is met first.
         */
        int meets(Row row) {
            int many = 0;
            int open = 0;
            metPlace = NONE;
            metInput = NONE;
            for (int place = 0; place < row.length(); place++) {
                int sign = row.at(place);
                if (open > 0 && sign != INPUT) {
                    int upper = openPlaces[open - 1];
                    int input = openInputs[open - 1];
                    if (rules.has(Rules.key(row.at(upper), input, sign))) {
                        many++;
                        if (metPlace == NONE || upper < metPlace) {
                            metPlace = upper;
                            metInput = input;
                        }
                    }
                }
                if (sign != INPUT && open < MOST_IN_TERM) {
                    openPlaces[open] = place;
                    openInputs[open] = 0;
                    open++;
                } else {
                    open = closeInput(row, open);
                }
            }
            return many;
        }

        /** Goes on to the next input of the operations that are open; tells how many still are. */
        private int closeInput(Row row, int open) {
            int still = open;
            while (still > 0) {
                openInputs[still - 1]++;
                if (openInputs[still - 1] < operations.widthOf(row.at(openPlaces[still - 1]))) {
                    return still;
                }
                still--;
            }
            return 0;
        }

        /** Puts all that comes instead of the tree at a place into the pool. */
        private boolean rewriteAt(int place, int input, long amount) {
            int upper = tree.at(place);
            int lower = NONE;
            int start = place + 1;
            pieces = 0;
            for (int i = 0; i < operations.widthOf(upper); i++) {
                if (i == input) {
                    lower = tree.at(start);
                    start = cutPieces(start + 1, operations.widthOf(lower));
                } else {
                    start = cutPieces(start, 1);
                }
            }
            Total right = rules.rightOf(Rules.key(upper, input, lower));
            if (right == null) {
                return false;
            }
            for (int term = 0; term < right.size(); term++) {
                spellTerm(right.codeAt(term), place, start);
                if (!pool.gather(operations.codeOf(next), right.amountAt(term), amount)) {
                    return false;
                }
            }
            return true;
        }

        /** Notes where trees that stand one behind the other begin and end. */
        private int cutPieces(int from, int many) {
            int start = from;
            for (int i = 0; i < many && pieces < MOST_PIECES; i++) {
                int end = operations.endOf(tree, start);
                starts[pieces] = start;
                ends[pieces] = end;
                pieces++;
                start = end;
            }
            return start;
        }

        /** Writes the tree with a tree of a right side, and the pieces at the inputs of that. */
        private void spellTerm(long code, int from, int to) {
            operations.spell(code, side);
            next.empty();
            next.putPart(tree, 0, from);
            int piece = 0;
            for (int i = 0; i < side.length(); i++) {
                if (side.at(i) != INPUT) {
                    next.put(side.at(i));
                } else if (piece < pieces) {
                    next.putPart(tree, starts[piece], ends[piece]);
                    piece++;
                }
            }
            next.putPart(tree, to, tree.length());
        }

        /** Compares what comes of a tree where one left side has another one on its lower end. */
        int compareChain(int one, int other) {
            if (Rules.lowerOf(one) != Rules.upperOf(other)) {
                return SAME;
            }
            spellChain(one, other);
            if (!rewriteFirst(0, Rules.inputOf(one)) || !drain()) {
                return BEYOND;
            }
            former = swapResult(former);
            spellChain(one, other);
            if (!rewriteFirst(1 + Rules.inputOf(one), Rules.inputOf(other)) || !drain()) {
                return BEYOND;
            }
            return compareEnds();
        }

        /** Compares what comes of a tree where two left sides have one upper operation. */
        int compareFork(int one, int other) {
            if (Rules.upperOf(one) != Rules.upperOf(other)
                    || Rules.inputOf(one) >= Rules.inputOf(other)) {
                return SAME;
            }
            spellFork(one, other);
            if (!rewriteFirst(0, Rules.inputOf(one)) || !drain()) {
                return BEYOND;
            }
            former = swapResult(former);
            spellFork(one, other);
            if (!rewriteFirst(0, Rules.inputOf(other)) || !drain()) {
                return BEYOND;
            }
            return compareEnds();
        }

        private int compareEnds() {
            boolean isSame = former.isLike(result);
            former.empty(0);
            result.empty(0);
            return isSame ? SAME : UNLIKE;
        }

        private boolean rewriteFirst(int place, int input) {
            start(tree.leaves());
            return rewriteAt(place, input, 1);
        }

        private void spellChain(int one, int other) {
            int upper = operations.widthOf(Rules.upperOf(one));
            int middle = operations.widthOf(Rules.upperOf(other));
            int lower = operations.widthOf(Rules.lowerOf(other));
            tree.empty();
            tree.put(Rules.upperOf(one));
            tree.putInputs(Rules.inputOf(one));
            tree.put(Rules.upperOf(other));
            tree.putInputs(Rules.inputOf(other));
            tree.put(Rules.lowerOf(other));
            tree.putInputs(lower);
            tree.putInputs(middle - 1 - Rules.inputOf(other));
            tree.putInputs(upper - 1 - Rules.inputOf(one));
        }

        private void spellFork(int one, int other) {
            int upper = operations.widthOf(Rules.upperOf(one));
            tree.empty();
            tree.put(Rules.upperOf(one));
            tree.putInputs(Rules.inputOf(one));
            tree.put(Rules.lowerOf(one));
            tree.putInputs(operations.widthOf(Rules.lowerOf(one)));
            tree.putInputs(Rules.inputOf(other) - Rules.inputOf(one) - 1);
            tree.put(Rules.lowerOf(other));
            tree.putInputs(operations.widthOf(Rules.lowerOf(other)));
            tree.putInputs(upper - 1 - Rules.inputOf(other));
        }

        /** Goes through all trees with so many inputs, and counts the normal and the dual ones. */
        void walkAll(int inputs) {
            normalCount = 0;
            dualCount = 0;
            tree.empty();
            walk(1, inputs);
        }

        /**
         * Goes on with a row that has so many trees open, and inputs left for all of them; each
         * level puts a sign, and a tree with 4 inputs has at most 7, so deeper is refused.
         */
        private void walk(int open, int left) {
            if (open == 0) {
                int met = meets(tree);
                normalCount += met == 0 ? 1 : 0;
                dualCount += met >= tree.operators() - 1 ? 1 : 0;
                return;
            }
            if (tree.length() >= 2 * MOST_WALKED) {
                return;
            }
            if (open > 1 || left == 1) {
                walkBehind(INPUT, open - 1, left - 1);
            }
            for (int operator = 0; operator < operations.count(); operator++) {
                int opened = open - 1 + operations.widthOf(operator);
                if (opened <= left) {
                    walkBehind(operator, opened, left);
                }
            }
        }

        private void walkBehind(int sign, int open, int left) {
            int length = tree.length();
            tree.put(sign);
            walk(open, left);
            tree.cutTo(length);
        }
    }

    /** Counts trees by what may stand at the inputs of their operations. */
    private static final class Census {
        static final int ALL = 0;
        static final int NORMAL = 1;
        static final int DUAL = 2;

        private static final int LINE = MOST_COUNTED + 1;

        private final Operations operations;
        private final Rules rules;
        private final long[] rooted = new long[MOST_OPERATIONS * LINE];
        private final long[] hanging = new long[MOST_OPERATIONS * MOST_WIDTH * LINE];
        private final long[] outer = new long[LINE];
        private final long[] inner = new long[LINE];
        private final long[] power = new long[LINE];

        Census(Operations operations, Rules rules) {
            this.operations = operations;
            this.rules = rules;
        }

        /** How many trees of a kind have so many inputs, 1 to 10. */
        long count(int kind, int inputs) {
            fill(kind, inputs);
            return countOf(inputs);
        }

        private long countOf(int inputs) {
            if (inputs == 1) {
                return 1;
            }
            long all = 0;
            for (int operator = 0; operator < operations.count(); operator++) {
                all += rooted[operator * LINE + inputs];
            }
            return all;
        }

        /** Counts all trees of a kind with up to so many inputs, by their first operation. */
        private void fill(int kind, int most) {
            for (int inputs = 1; inputs <= most && inputs < LINE; inputs++) {
                for (int operator = 0; operator < operations.count(); operator++) {
                    rooted[operator * LINE + inputs] = countRooted(operator, inputs);
                }
                for (int operator = 0; operator < operations.count(); operator++) {
                    for (int input = 0; input < operations.widthOf(operator); input++) {
                        hanging[(operator * MOST_WIDTH + input) * LINE + inputs] =
                                countHanging(kind, operator, input, inputs);
                    }
                }
            }
        }

        private long countRooted(int operator, int inputs) {
            int first = operator * MOST_WIDTH * LINE;
            int width = operations.widthOf(operator);
            long all = 0;
            for (int ahead = 1; ahead < inputs; ahead++) {
                int rest = inputs - ahead;
                long behind = 0;
                if (width == LEAST_WIDTH) {
                    behind = hanging[first + LINE + rest];
                } else {
                    for (int middle = 1; middle < rest; middle++) {
                        behind += hanging[first + LINE + middle]
                                * hanging[first + 2 * LINE + rest - middle];
                    }
                }
                all += hanging[first + ahead] * behind;
            }
            return all;
        }

        private long countHanging(int kind, int upper, int input, int inputs) {
            if (inputs == 1) {
                return 1;
            }
            long all = 0;
            for (int lower = 0; lower < operations.count(); lower++) {
                boolean isMet = rules.has(Rules.key(upper, input, lower));
                if (kind == ALL || isMet == (kind == DUAL)) {
                    all += rooted[lower * LINE + inputs];
                }
            }
            return all;
        }

        /** Whether the series of dual trees, put into that of normal ones, gives the input. */
        boolean isInverseUpTo(int most) {
            fill(NORMAL, most);
            for (int inputs = 1; inputs <= most && inputs < LINE; inputs++) {
                outer[inputs] = countOf(inputs);
            }
            fill(DUAL, most);
            for (int inputs = 1; inputs <= most && inputs < LINE; inputs++) {
                inner[inputs] = inputs % 2 == 1 ? countOf(inputs) : -countOf(inputs);
            }
            for (int inputs = 1; inputs <= most && inputs < LINE; inputs++) {
                if (coefficient(inputs) != (inputs == 1 ? 1 : 0)) {
                    return false;
                }
            }
            return true;
        }

        private long coefficient(int inputs) {
            Arrays.fill(power, 0);
            power[0] = 1;
            long all = 0;
            for (int times = 1; times <= inputs && times < LINE; times++) {
                multiplyPower(inputs);
                all += outer[times] * power[inputs];
            }
            return all;
        }

        /** From the top down, as each number needs only lower ones of the power before. */
        private void multiplyPower(int most) {
            for (int to = Math.min(most, LINE - 1); to >= 0; to--) {
                long all = 0;
                for (int from = 0; from < to; from++) {
                    all += power[from] * inner[to - from];
                }
                power[to] = all;
            }
        }

        static long choose(int many, int chosen) {
            long ways = 1;
            for (int i = 1; i <= chosen; i++) {
                ways = ways * (many - chosen + i) / i;
            }
            return ways;
        }
    }

    /** A shrub: for each knot the one below it. */
    private static final class Shrub {
        private final int[] below = new int[MOST_KNOTS];
        private final int[] sizes = new int[MOST_KNOTS];
        private final int[] numbers = new int[MOST_KNOTS];
        private int size;

        int size() {
            return size;
        }

        int belowOf(int knot) {
            return knot > 0 && knot < size ? below[knot] : 0;
        }

        /** Reads a row; false, and nothing changed, if it is no shrub. */
        boolean read(Row row) {
            int length = row.length();
            if (length < 1 || length > MOST_KNOTS || row.at(0) != 0) {
                return false;
            }
            for (int knot = 1; knot < length; knot++) {
                if (row.at(knot) >= knot) {
                    return false;
                }
            }
            size = length;
            for (int knot = 0; knot < length; knot++) {
                below[knot] = row.at(knot);
            }
            return true;
        }

        /** Reads a number whose digits, behind the first one, tell the knots below. */
        void readDigits(int digits, int knots) {
            int rest = digits;
            size = knots >= 1 && knots <= MOST_KNOTS ? knots : 1;
            below[0] = 0;
            for (int knot = size - 1; knot > 0; knot--) {
                below[knot] = rest % 10;
                rest /= 10;
            }
        }

        void join(Shrub base, Shrub top, int knot) {
            size = Math.min(base.size + top.size, MOST_KNOTS);
            for (int i = 0; i < size; i++) {
                if (i < base.size) {
                    below[i] = base.below[i];
                } else if (i == base.size) {
                    below[i] = knot;
                } else {
                    below[i] = base.size + top.below[i - base.size];
                }
            }
        }

        /** A number that is the same for like shrubs alone. */
        int code() {
            return codeOfPart((1 << size) - 1);
        }

        /**
         * The number of the part that some knots with the root make: for each knot a bit 1, the
         * bits of its branches, the greatest first, and a bit 0.
         */
        private int codeOfPart(int part) {
            int taken = 0;
            for (int knot = size - 1; knot >= 0; knot--) {
                int code = 1;
                int branch = greatestBranch(knot, part & ~taken);
                for (int i = 0; i < size && branch != NONE; i++) {
                    code = (code << (2 * Integer.bitCount(numbers[branch]))) | numbers[branch];
                    taken |= 1 << branch;
                    branch = greatestBranch(knot, part & ~taken);
                }
                numbers[knot] = code << 1;
            }
            return numbers[0];
        }

        private int greatestBranch(int knot, int left) {
            int greatest = NONE;
            for (int i = knot + 1; i < size; i++) {
                boolean isLeft = (left >> i & 1) == 1 && below[i] == knot;
                if (isLeft && (greatest == NONE || numbers[i] > numbers[greatest])) {
                    greatest = i;
                }
            }
            return greatest;
        }

        /** At each knot, like branches can be changed with one another. */
        int countSymmetry() {
            code();
            int product = 1;
            for (int knot = 1; knot < size; knot++) {
                int like = 1;
                for (int i = 1; i < knot; i++) {
                    if (below[i] == below[knot] && numbers[i] == numbers[knot]) {
                        like++;
                    }
                }
                product *= like;
            }
            return product;
        }

        int countDensity() {
            countSizes();
            int product = 1;
            for (int knot = 0; knot < size; knot++) {
                product *= sizes[knot];
            }
            return product;
        }

        private void countSizes() {
            Arrays.fill(sizes, 1);
            for (int knot = size - 1; knot > 0; knot--) {
                int lower = below[knot];
                if (lower >= 0 && lower < knot) {
                    sizes[lower] += sizes[knot];
                }
            }
        }

        /** Branches are taken one by one: the places of each among those before are chosen. */
        int countGrowths() {
            int orders = 1;
            Arrays.fill(sizes, 1);
            for (int knot = size - 1; knot > 0; knot--) {
                int lower = below[knot];
                if (lower >= 0 && lower < knot) {
                    sizes[lower] += sizes[knot];
                    orders *= (int) Census.choose(sizes[lower] - 1, sizes[knot]);
                }
            }
            return orders;
        }

        /** A cut and the knots that stay with the root tell one another. */
        int countTrunks(Shrub trunk) {
            int code = trunk.code();
            int many = 0;
            for (int part = 1; part < 1 << size; part += 2) {
                if (Integer.bitCount(part) == trunk.size && isTrunk(part)
                        && codeOfPart(part) == code) {
                    many++;
                }
            }
            return many;
        }

        private boolean isTrunk(int part) {
            for (int knot = 1; knot < size; knot++) {
                if ((part >> knot & 1) == 1 && (part >> below[knot] & 1) == 0) {
                    return false;
                }
            }
            return true;
        }
    }

    /** A whole number of some 1200 bits, by its sign and its digits, the lowest first. */
    private static final class Whole {
        // The greatest number that a weight needs has 838 bits.
        private static final int MOST_DIGITS = 40;
        private static final int BITS = 31;
        private static final long DIGIT = (1L << BITS) - 1;

        private final int[] digits = new int[MOST_DIGITS];
        private int length;
        private boolean isNegative;

        boolean isZero() {
            return length == 0;
        }

        boolean isLike(Whole other) {
            return isNegative == other.isNegative && compareSize(other) == 0;
        }

        void setTo(long value) {
            long rest = value < 0 ? -value : value;
            isNegative = value < 0;
            length = 0;
            for (int i = 0; i < 3 && rest > 0; i++) {
                digits[length] = (int) (rest & DIGIT);
                length++;
                rest >>= BITS;
            }
        }

        void setTo(Whole other) {
            isNegative = other.isNegative;
            length = other.length;
            System.arraycopy(other.digits, 0, digits, 0, length);
        }

        void setToProduct(Whole one, Whole other) {
            length = Math.min(one.length + other.length, MOST_DIGITS);
            Arrays.fill(digits, 0, length, 0);
            for (int i = 0; i < one.length; i++) {
                long carry = 0;
                int end = Math.min(other.length, MOST_DIGITS - i);
                for (int j = 0; j < end; j++) {
                    carry += (long) one.digits[i] * other.digits[j] + digits[i + j];
                    digits[i + j] = (int) (carry & DIGIT);
                    carry >>= BITS;
                }
                if (i + other.length < length) {
                    digits[i + other.length] = (int) carry;
                }
            }
            trim();
            isNegative = length > 0 && one.isNegative != other.isNegative;
        }

        void addIn(Whole other) {
            if (isNegative == other.isNegative) {
                addSize(other);
            } else if (compareSize(other) >= 0) {
                setToDifference(this, other);
                isNegative = length > 0 && isNegative;
            } else {
                setToDifference(other, this);
                isNegative = other.isNegative;
            }
        }

        /** Divides by a small number if that leaves no rest; tells whether it did. */
        boolean divideIfWhole(int divisor) {
            long rest = 0;
            for (int i = length - 1; i >= 0 && divisor > 0; i--) {
                rest = ((rest << BITS) + digits[i]) % divisor;
            }
            if (rest != 0 || divisor <= 0) {
                return false;
            }
            for (int i = length - 1; i >= 0; i--) {
                rest = (rest << BITS) + digits[i];
                digits[i] = (int) (rest / divisor);
                rest %= divisor;
            }
            trim();
            return true;
        }

        /** The least long alone has its highest bit without being below 2 to the 63rd. */
        boolean isLong() {
            if (length < 3) {
                return true;
            }
            boolean isLeast = isNegative && digits[2] == 2 && digits[1] == 0 && digits[0] == 0;
            return length == 3 && (digits[2] < 2 || isLeast);
        }

        long toLong() {
            long value = 0;
            for (int i = Math.min(length, 3) - 1; i >= 0; i--) {
                value = (value << BITS) + digits[i];
            }
            return isNegative ? -value : value;
        }

        private int compareSize(Whole other) {
            if (length != other.length) {
                return length < other.length ? -1 : 1;
            }
            for (int i = length - 1; i >= 0; i--) {
                if (digits[i] != other.digits[i]) {
                    return digits[i] < other.digits[i] ? -1 : 1;
                }
            }
            return 0;
        }

        private void addSize(Whole other) {
            int most = Math.min(Math.max(length, other.length) + 1, MOST_DIGITS);
            long carry = 0;
            for (int i = 0; i < most; i++) {
                carry += (i < length ? digits[i] : 0) + (long) (i < other.length ? other.digits[i] : 0);
                digits[i] = (int) (carry & DIGIT);
                carry >>= BITS;
            }
            length = most;
            trim();
        }

        private void setToDifference(Whole big, Whole small) {
            int most = big.length;
            long carry = 0;
            for (int i = 0; i < most; i++) {
                carry += big.digits[i] - (long) (i < small.length ? small.digits[i] : 0);
                digits[i] = (int) (carry & DIGIT);
                carry >>= BITS;
            }
            length = most;
            trim();
        }

        private void trim() {
            while (length > 0 && digits[length - 1] == 0) {
                length--;
            }
        }
    }

    /**
     * A method of steps. Its fractions are brought to a common lower number each for a and b, so
     * that a weight is one whole number, divided by powers of small primes.
     */
    private static final class Stepper {
        private static final int STEPS = MOST_STAGES * MOST_STAGES;
        private static final int[] PRIMES = {2, 3, 5, 7, 11, 13, 17, 19, 23, 29, 31, 37, 41, 43, 47,
            53, 59, 61, 67, 71, 73, 79, 83, 89, 97};
        // All shrubs with at most 5 knots: behind the first digit, the knots below the others.
        private static final int[] SHRUBS = {1, 10, 100, 101, 1000, 1001, 1011, 1012, 10000, 10001,
            10011, 10012, 10013, 10111, 10112, 10122, 10123};
        private static final int[] SHRUB_SIZES = {1, 2, 3, 3, 4, 4, 4, 4, 5, 5, 5, 5, 5, 5, 5, 5, 5};

        private final int[] stepUppers = new int[STEPS];
        private final int[] stepLowers = new int[STEPS];
        private final int[] lastUppers = new int[MOST_STAGES];
        private final int[] lastLowers = new int[MOST_STAGES];
        private final int[] stepPowers = new int[PRIMES.length];
        private final int[] lastPowers = new int[PRIMES.length];
        private final int[] powers = new int[PRIMES.length];
        private final Whole[] steps = makeWholes(STEPS);
        private final Whole[] lasts = makeWholes(MOST_STAGES);
        private final Whole[] weights = makeWholes(MOST_STAGES * MOST_KNOTS);
        private final Whole stepLower = new Whole();
        private final Whole lastLower = new Whole();
        private final Whole total = new Whole();
        private final Whole part = new Whole();
        private final Whole product = new Whole();
        private int count = 1;
        private boolean isScaled;

        private static Whole[] makeWholes(int many) {
            Whole[] wholes = new Whole[Math.max(many, 0)];
            for (int i = 0; i < wholes.length; i++) {
                wholes[i] = new Whole();
            }
            return wholes;
        }

        boolean has(int stage) {
            return stage >= 0 && stage < count;
        }

        int restart(int many) {
            int former = count;
            count = many;
            isScaled = false;
            Arrays.fill(stepUppers, 0);
            Arrays.fill(lastUppers, 0);
            return former;
        }

        int tellStep(int from, int to, int upper, int lower) {
            isScaled = false;
            if (has(from) && has(to)) {
                stepUppers[from * MOST_STAGES + to] = upper;
                stepLowers[from * MOST_STAGES + to] = lower;
            }
            return countUnlike0(stepUppers);
        }

        int tellLast(int stage, int upper, int lower) {
            isScaled = false;
            if (has(stage)) {
                lastUppers[stage] = upper;
                lastLowers[stage] = lower;
            }
            return countUnlike0(lastUppers);
        }

        private static int countUnlike0(int[] uppers) {
            int many = 0;
            for (int i = 0; i < uppers.length; i++) {
                if (uppers[i] != 0) {
                    many++;
                }
            }
            return many;
        }

        void weigh(Shrub shrub) {
            scale();
            weighWhole(shrub);
            for (int i = 0; i < PRIMES.length; i++) {
                int power = total.isZero() ? 0 : stepPowers[i] * (shrub.size() - 1) + lastPowers[i];
                while (power > 0 && total.divideIfWhole(PRIMES[i])) {
                    power--;
                }
                powers[i] = power;
            }
        }

        boolean isUpperLong() {
            return total.isLong();
        }

        long upper() {
            return total.toLong();
        }

        /** The lower number of the weight that was weighed; 0 if it is beyond a long. */
        long lower() {
            long lower = 1;
            for (int i = 0; i < PRIMES.length; i++) {
                for (int power = 0; power < powers[i]; power++) {
                    if (lower > Long.MAX_VALUE / PRIMES[i]) {
                        return 0;
                    }
                    lower *= PRIMES[i];
                }
            }
            return lower;
        }

        int countOrder(Shrub scratch) {
            scale();
            for (int i = 0; i < SHRUBS.length; i++) {
                scratch.readDigits(SHRUBS[i], SHRUB_SIZES[i]);
                if (!isWeightDue(scratch)) {
                    return SHRUB_SIZES[i] - 1;
                }
            }
            return MOST_ORDER;
        }

        /** Whether the weight times the density is 1. */
        private boolean isWeightDue(Shrub shrub) {
            weighWhole(shrub);
            part.setTo(shrub.countDensity());
            product.setToProduct(total, part);
            part.setTo(lastLower);
            for (int knot = 1; knot < shrub.size(); knot++) {
                total.setToProduct(part, stepLower);
                part.setTo(total);
            }
            return product.isLike(part);
        }

        /** Brings the fractions a, and the fractions b, to a common lower number each. */
        private void scale() {
            if (isScaled) {
                return;
            }
            isScaled = true;
            gatherPowers(stepUppers, stepLowers, stepPowers);
            gatherPowers(lastUppers, lastLowers, lastPowers);
            multiplyPowers(stepPowers, stepLower);
            multiplyPowers(lastPowers, lastLower);
            for (int i = 0; i < STEPS; i++) {
                scaleOne(steps[i], stepLower, stepUppers[i], stepLowers[i]);
            }
            for (int i = 0; i < MOST_STAGES; i++) {
                scaleOne(lasts[i], lastLower, lastUppers[i], lastLowers[i]);
            }
        }

        /** The greatest power of each prime in the lower numbers of fractions that are not 0. */
        private static void gatherPowers(int[] uppers, int[] lowers, int[] most) {
            for (int prime = 0; prime < PRIMES.length && prime < most.length; prime++) {
                most[prime] = 0;
                for (int i = 0; i < uppers.length && i < lowers.length; i++) {
                    int power = uppers[i] == 0 ? 0 : powerIn(lowers[i], PRIMES[prime]);
                    most[prime] = Math.max(most[prime], power);
                }
            }
        }

        private static int powerIn(int number, int prime) {
            int power = 0;
            int rest = number;
            while (rest > 0 && prime > 1 && rest % prime == 0) {
                rest /= prime;
                power++;
            }
            return power;
        }

        private void multiplyPowers(int[] most, Whole lower) {
            lower.setTo(1);
            for (int prime = 0; prime < PRIMES.length && prime < most.length; prime++) {
                for (int power = 0; power < most[prime]; power++) {
                    part.setTo(PRIMES[prime]);
                    product.setToProduct(lower, part);
                    lower.setTo(product);
                }
            }
        }

        private void scaleOne(Whole scaled, Whole common, int upper, int lower) {
            if (upper == 0) {
                scaled.setTo(0);
                return;
            }
            product.setTo(common);
            product.divideIfWhole(lower);
            part.setTo(upper);
            scaled.setToProduct(product, part);
        }

        /** The weight times the common lower number of b, and that of a for each branch. */
        private void weighWhole(Shrub shrub) {
            int knots = Math.min(shrub.size(), MOST_KNOTS);
            for (int i = 0; i < knots * MOST_STAGES; i++) {
                weights[i].setTo(1);
            }
            for (int knot = knots - 1; knot > 0; knot--) {
                for (int stage = 0; stage < count; stage++) {
                    sumUp(steps, stage * MOST_STAGES, knot * MOST_STAGES);
                    int lower = shrub.belowOf(knot) * MOST_STAGES + stage;
                    product.setToProduct(weights[lower], total);
                    weights[lower].setTo(product);
                }
            }
            sumUp(lasts, 0, 0);
        }

        private void sumUp(Whole[] fractions, int fraction, int weight) {
            total.setTo(0);
            for (int stage = 0; stage < count; stage++) {
                if (fraction + stage < fractions.length && weight + stage < weights.length
                        && !fractions[fraction + stage].isZero()) {
                    part.setToProduct(fractions[fraction + stage], weights[weight + stage]);
                    total.addIn(part);
                }
            }
        }
    }

    /** What can be said of words. */
    private static final class Letters {
        private static final int[] SIGNS_OF_DIVISORS = {0, 1, -1, -1, 0, -1, 1, -1, 0, 0, 1, -1, 0};

        static boolean isWord(Row row) {
            if (row.length() < 1 || row.length() > MOST_LETTERS) {
                return false;
            }
            for (int i = 0; i < row.length(); i++) {
                if (row.at(i) > LAST_LETTER) {
                    return false;
                }
            }
            return true;
        }

        /**
         * Where the first factor of a part of a word ends, after Duval: the part is read as long
         * as it is a Lyndon word repeated, the last time perhaps not in full.
         */
        private static int factorEnd(Row row, int from, int to) {
            int behind = from;
            int ahead = from + 1;
            while (ahead < to && row.at(behind) <= row.at(ahead)) {
                behind = row.at(behind) < row.at(ahead) ? from : behind + 1;
                ahead++;
            }
            return from + ahead - behind;
        }

        static boolean isLyndon(Row row, int from, int to) {
            return from < to && factorEnd(row, from, to) == to;
        }

        static int countFactors(Row row) {
            int many = 0;
            int from = 0;
            while (from < row.length() && many < MOST_LETTERS) {
                from = factorEnd(row, from, row.length());
                many++;
            }
            return many;
        }

        static int factorLength(Row row, int index) {
            int from = 0;
            for (int i = 0; i < index && i < MOST_LETTERS; i++) {
                from = factorEnd(row, from, row.length());
            }
            return factorEnd(row, from, row.length()) - from;
        }

        /** Whether the factors, each a Lyndon word and none lower than the next, are the word. */
        static boolean isPutTogether(Row row, Row scratch) {
            scratch.empty();
            int from = 0;
            for (int i = 0; i < MOST_LETTERS && from < row.length(); i++) {
                int to = factorEnd(row, from, row.length());
                if (!isLyndon(row, from, to)) {
                    return false;
                }
                scratch.putPart(row, from, to);
                from = to;
            }
            return scratch.isLike(row);
        }

        /** The amount of a word in the bracket of a Lyndon word, which is as long. */
        static int bracketAmount(Row word, Row asked) {
            return amountInBracket(word, 0, word.length(), asked, 0);
        }

        /**
         * The amount of a part of a word, as long, in the bracket of a part of a Lyndon word. Each
         * level has a shorter part, so there are at most 8; longer ones are refused.
         */
        private static int amountInBracket(Row word, int from, int to, Row asked, int at) {
            int length = to - from;
            if (length <= 1 || length > MOST_LETTERS) {
                return length == 1 && word.at(from) == asked.at(at) ? 1 : 0;
            }
            int middle = from + 1;
            while (middle < to - 1 && !isLyndon(word, middle, to)) {
                middle++;
            }
            int amount = amountInBracket(word, from, middle, asked, at);
            if (amount != 0) {
                amount *= amountInBracket(word, middle, to, asked, at + middle - from);
            }
            int turned = amountInBracket(word, middle, to, asked, at);
            if (turned != 0) {
                turned *= amountInBracket(word, from, middle, asked, at + to - middle);
            }
            return amount - turned;
        }

        /** Counts, letter by letter, in how many ways so many letters are of the first word. */
        static int countShuffles(Row one, Row other, Row word, int[] ways) {
            if (one.length() + other.length() != word.length() || one.length() >= ways.length) {
                return 0;
            }
            Arrays.fill(ways, 0);
            ways[0] = 1;
            for (int place = 0; place < word.length(); place++) {
                int letter = word.at(place);
                for (int taken = one.length(); taken >= 0; taken--) {
                    int many = other.at(place - taken) == letter ? ways[taken] : 0;
                    if (taken > 0 && one.at(taken - 1) == letter) {
                        many += ways[taken - 1];
                    }
                    ways[taken] = many;
                }
            }
            return ways[one.length()];
        }

        static long countLyndon(int letters, int length) {
            if (length < 1 || length >= SIGNS_OF_DIVISORS.length) {
                return 0;
            }
            long all = 0;
            for (int divisor = 1; divisor <= length; divisor++) {
                if (length % divisor == 0) {
                    all += SIGNS_OF_DIVISORS[divisor] * power(letters, length / divisor);
                }
            }
            return all / length;
        }

        private static long power(int base, int times) {
            long product = 1;
            for (int i = 0; i < times; i++) {
                product *= base;
            }
            return product;
        }
    }
}
