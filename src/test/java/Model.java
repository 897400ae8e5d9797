import java.math.BigInteger;
import java.util.ArrayList;
import java.util.Collections;
import java.util.List;
import java.util.Map;
import java.util.NoSuchElementException;
import java.util.TreeMap;

/**
 * The document once more, in the plainest way: trees are objects, sums are maps, numbers have no
 * end, and what is counted is gone through one by one. It is slow, and stands for the tests alone.
 */
final class Model {
    /** A tree: an input if it has no operation. */
    static final class Tree implements Comparable<Tree> {
        final int operator;
        final List<Tree> parts;
        private List<String> allWays;

        Tree(int operator, List<Tree> parts) {
            this.operator = operator;
            this.parts = parts;
        }

        boolean isInput() {
            return operator < 0;
        }

        int inputs() {
            int all = isInput() ? 1 : 0;
            for (Tree part : parts) {
                all += part.inputs();
            }
            return all;
        }

        int operators() {
            int all = isInput() ? 0 : 1;
            for (Tree part : parts) {
                all += part.operators();
            }
            return all;
        }

        String row() {
            if (isInput()) {
                return "9";
            }
            StringBuilder row = new StringBuilder().append(operator);
            for (Tree part : parts) {
                row.append(part.row());
            }
            return row.toString();
        }

        void ways(String above, List<String> ways) {
            if (isInput()) {
                ways.add(above);
            }
            for (Tree part : parts) {
                part.ways(above + operator, ways);
            }
        }

        private List<String> allWays() {
            if (allWays == null) {
                allWays = new ArrayList<>();
                ways("", allWays);
            }
            return allWays;
        }

        @Override
        public int compareTo(Tree other) {
            if (inputs() != other.inputs()) {
                return Integer.compare(inputs(), other.inputs());
            }
            List<String> mine = allWays();
            List<String> its = other.allWays();
            for (int i = 0; i < mine.size(); i++) {
                String one = mine.get(i);
                String two = its.get(i);
                if (one.length() != two.length()) {
                    return Integer.compare(one.length(), two.length());
                }
                if (!one.equals(two)) {
                    return one.compareTo(two) < 0 ? -1 : 1;
                }
            }
            return 0;
        }

        /** All operations, as they stand in the row. */
        void nodes(List<Tree> nodes) {
            if (!isInput()) {
                nodes.add(this);
            }
            for (Tree part : parts) {
                part.nodes(nodes);
            }
        }
    }

    static final Tree LEAF = new Tree(-1, Collections.<Tree>emptyList());
    static final BigInteger LEAST = BigInteger.valueOf(Long.MIN_VALUE);
    static final BigInteger GREATEST = BigInteger.valueOf(Long.MAX_VALUE);

    final List<Integer> widths = new ArrayList<>();
    final List<Integer> typed = new ArrayList<>();
    final List<Tree> trees = new ArrayList<>();
    final List<TreeMap<Tree, BigInteger>> sums = new ArrayList<>();
    final List<Tree> lefts = new ArrayList<>();
    final List<TreeMap<Tree, BigInteger>> rights = new ArrayList<>();
    final List<List<Integer>> shrubs = new ArrayList<>();
    final List<List<Integer>> words = new ArrayList<>();
    int stages = 1;
    int[][] stepUpper = new int[4][4];
    int[][] stepLower = new int[4][4];
    int[] lastUpper = new int[4];
    int[] lastLower = new int[4];

    int operation(int inputs) {
        if (inputs != 2 && inputs != 3) {
            throw new IllegalArgumentException();
        }
        if (widths.size() == 4) {
            throw new IllegalStateException();
        }
        widths.add(inputs);
        return widths.size() - 1;
    }

    int type(int sign) {
        if (sign < 0 || sign > 9) {
            throw new IllegalArgumentException();
        }
        if (typed.size() == 40) {
            throw new IllegalStateException();
        }
        typed.add(sign);
        return typed.size();
    }

    int wipe() {
        int many = typed.size();
        typed.clear();
        return many;
    }

    private Tree read(int[] place) {
        if (place[0] >= typed.size()) {
            throw new UnsupportedOperationException();
        }
        int sign = typed.get(place[0]++);
        if (sign == 9) {
            return LEAF;
        }
        if (sign >= widths.size()) {
            throw new UnsupportedOperationException();
        }
        List<Tree> parts = new ArrayList<>();
        for (int i = 0; i < widths.get(sign); i++) {
            parts.add(read(place));
        }
        return new Tree(sign, parts);
    }

    int tree() {
        int[] place = {0};
        Tree tree = read(place);
        if (place[0] != typed.size() || tree.operators() > 8) {
            throw new UnsupportedOperationException();
        }
        return keep(tree);
    }

    private int keep(Tree tree) {
        for (int i = 0; i < trees.size(); i++) {
            if (trees.get(i).row().equals(tree.row())) {
                return i;
            }
        }
        if (trees.size() == 40) {
            throw new IllegalStateException();
        }
        trees.add(tree);
        return trees.size() - 1;
    }

    private <T> T at(List<T> list, int number) {
        if (number < 0 || number >= list.size()) {
            throw new IndexOutOfBoundsException();
        }
        return list.get(number);
    }

    int inputs(int tree) {
        return at(trees, tree).inputs();
    }

    int signAt(int tree, int place) {
        String row = at(trees, tree).row();
        if (place < 0 || place >= row.length()) {
            throw new NoSuchElementException();
        }
        return row.charAt(place) - '0';
    }

    private static Tree put(Tree tree, int[] input, Tree other) {
        if (tree.isInput()) {
            return input[0]-- == 0 ? other : tree;
        }
        List<Tree> parts = new ArrayList<>();
        for (Tree part : tree.parts) {
            parts.add(put(part, input, other));
        }
        return new Tree(tree.operator, parts);
    }

    int compose(int tree, int input, int other) {
        Tree one = at(trees, tree);
        Tree two = at(trees, other);
        if (input < 0 || input >= one.inputs()) {
            throw new NoSuchElementException();
        }
        if (one.operators() + two.operators() > 8) {
            throw new UnsupportedOperationException();
        }
        return keep(put(one, new int[] {input}, two));
    }

    int compare(int one, int other) {
        return at(trees, one).compareTo(at(trees, other));
    }

    int sum() {
        if (sums.size() == 10) {
            throw new IllegalStateException();
        }
        sums.add(new TreeMap<>(Collections.reverseOrder()));
        return sums.size() - 1;
    }

    private static boolean isLong(BigInteger number) {
        return number.compareTo(LEAST) >= 0 && number.compareTo(GREATEST) <= 0;
    }

    private static void gather(TreeMap<Tree, BigInteger> sum, Tree tree, BigInteger amount) {
        BigInteger now = sum.getOrDefault(tree, BigInteger.ZERO).add(amount);
        if (!isLong(now)) {
            throw new ArithmeticException();
        }
        if (now.signum() == 0) {
            sum.remove(tree);
        } else {
            sum.put(tree, now);
        }
    }

    long add(int sum, int tree, int amount) {
        TreeMap<Tree, BigInteger> total = at(sums, sum);
        Tree kept = at(trees, tree);
        if (amount < -99 || amount > 99) {
            throw new IllegalArgumentException();
        }
        if (!total.isEmpty() && total.firstKey().inputs() != kept.inputs()) {
            throw new UnsupportedOperationException();
        }
        gather(total, kept, BigInteger.valueOf(amount));
        return total.getOrDefault(kept, BigInteger.ZERO).longValueExact();
    }

    int terms(int sum) {
        return at(sums, sum).size();
    }

    private Tree term(int sum, int term) {
        List<Tree> all = new ArrayList<>(at(sums, sum).keySet());
        if (term < 0 || term >= all.size()) {
            throw new NoSuchElementException();
        }
        return all.get(term);
    }

    long amount(int sum, int term) {
        return at(sums, sum).get(term(sum, term)).longValueExact();
    }

    int termSign(int sum, int term, int place) {
        String row = term(sum, term).row();
        if (place < 0 || place >= row.length()) {
            throw new NoSuchElementException();
        }
        return row.charAt(place) - '0';
    }

    int rule(int tree, int sum) {
        Tree left = at(trees, tree);
        TreeMap<Tree, BigInteger> right = at(sums, sum);
        if (left.operators() != 2) {
            throw new UnsupportedOperationException();
        }
        for (Tree other : lefts) {
            if (other.compareTo(left) == 0) {
                throw new UnsupportedOperationException();
            }
        }
        for (Tree term : right.keySet()) {
            if (term.inputs() != left.inputs() || term.compareTo(left) >= 0) {
                throw new UnsupportedOperationException();
            }
        }
        if (lefts.size() == 8) {
            throw new IllegalStateException();
        }
        lefts.add(left);
        rights.add(new TreeMap<>(right));
        return lefts.size();
    }

    /** The rule that is met at an input of an operation; -1 if none is. */
    private int ruleAt(Tree upper, int input) {
        Tree lower = upper.parts.get(input);
        if (lower.isInput()) {
            return -1;
        }
        for (int i = 0; i < lefts.size(); i++) {
            Tree left = lefts.get(i);
            boolean isHere = left.operator == upper.operator && !left.parts.get(input).isInput()
                    && left.parts.get(input).operator == lower.operator;
            if (isHere) {
                return i;
            }
        }
        return -1;
    }

    /** All places, as the number of the upper operation in the row, and the input. */
    private List<int[]> places(Tree tree) {
        List<Tree> nodes = new ArrayList<>();
        tree.nodes(nodes);
        List<int[]> places = new ArrayList<>();
        for (int node = 0; node < nodes.size(); node++) {
            for (int input = 0; input < nodes.get(node).parts.size(); input++) {
                if (ruleAt(nodes.get(node), input) >= 0) {
                    places.add(new int[] {node, input});
                }
            }
        }
        return places;
    }

    private static Tree fill(Tree tree, List<Tree> pieces) {
        if (tree.isInput()) {
            return pieces.remove(0);
        }
        List<Tree> parts = new ArrayList<>();
        for (Tree part : tree.parts) {
            parts.add(fill(part, pieces));
        }
        return new Tree(tree.operator, parts);
    }

    private static Tree exchange(Tree tree, int[] node, Tree other) {
        if (tree.isInput()) {
            return tree;
        }
        if (node[0]-- == 0) {
            return other;
        }
        List<Tree> parts = new ArrayList<>();
        for (Tree part : tree.parts) {
            parts.add(exchange(part, node, other));
        }
        return new Tree(tree.operator, parts);
    }

    private void rewrite(TreeMap<Tree, BigInteger> sum, Tree tree, int[] place, BigInteger amount) {
        List<Tree> nodes = new ArrayList<>();
        tree.nodes(nodes);
        Tree upper = nodes.get(place[0]);
        int rule = ruleAt(upper, place[1]);
        for (Map.Entry<Tree, BigInteger> term : rights.get(rule).entrySet()) {
            List<Tree> pieces = new ArrayList<>();
            for (int input = 0; input < upper.parts.size(); input++) {
                if (input == place[1]) {
                    pieces.addAll(upper.parts.get(input).parts);
                } else {
                    pieces.add(upper.parts.get(input));
                }
            }
            Tree filled = fill(term.getKey(), pieces);
            Tree whole = exchangeNode(tree, place[0], filled);
            gather(sum, whole, term.getValue().multiply(amount));
        }
    }

    /** The node is the number of an operation in the row; those within what is put in are none. */
    private static Tree exchangeNode(Tree tree, int node, Tree other) {
        int[] left = {node};
        return exchange(tree, left, other);
    }

    int mostSteps = 6000;
    private int steps;

    /** What comes instead of a tree is lower, so none ahead is met again; false if it is long. */
    private boolean reduceTotal(TreeMap<Tree, BigInteger> sum, int mostSteps) {
        steps = 0;
        Tree tree = sum.isEmpty() ? null : sum.firstKey();
        while (tree != null) {
            List<int[]> places = places(tree);
            if (!places.isEmpty()) {
                BigInteger amount = sum.remove(tree);
                rewrite(sum, tree, places.get(0), amount);
            }
            if (++steps > mostSteps) {
                return false;
            }
            tree = sum.higherKey(tree);
        }
        return true;
    }

    /** Thrown by the model where it would take too long to answer. */
    static final class TooLong extends RuntimeException {
        private static final long serialVersionUID = 1;
    }

    int reduce(int sum) {
        TreeMap<Tree, BigInteger> total = new TreeMap<>(at(sums, sum));
        if (!reduceTotal(total, mostSteps)) {
            throw new TooLong();
        }
        sums.set(sum, total);
        return total.size();
    }

    boolean isNormal(int tree) {
        return places(at(trees, tree)).isEmpty();
    }

    /** All trees with so many inputs. */
    List<Tree> all(int inputs) {
        List<Tree> all = new ArrayList<>();
        if (inputs == 1) {
            all.add(LEAF);
        }
        for (int operator = 0; operator < widths.size(); operator++) {
            for (List<Tree> parts : rows(widths.get(operator), inputs)) {
                all.add(new Tree(operator, parts));
            }
            if (all.size() > 40000) {
                throw new TooLong();
            }
        }
        return all;
    }

    private List<List<Tree>> rows(int many, int inputs) {
        List<List<Tree>> rows = new ArrayList<>();
        if (many == 0) {
            if (inputs == 0) {
                rows.add(new ArrayList<>());
            }
            return rows;
        }
        for (int first = 1; first <= inputs - many + 1; first++) {
            List<List<Tree>> rests = rows(many - 1, inputs - first);
            for (Tree tree : rests.isEmpty() ? new ArrayList<Tree>() : all(first)) {
                for (List<Tree> rest : rests) {
                    List<Tree> row = new ArrayList<>();
                    row.add(tree);
                    row.addAll(rest);
                    rows.add(row);
                }
                if (rows.size() > 40000) {
                    throw new TooLong();
                }
            }
        }
        return rows;
    }

    private static void inRange(int number, int least, int most) {
        if (number < least || number > most) {
            throw new IllegalArgumentException();
        }
    }

    long normals(int inputs) {
        inRange(inputs, 1, 10);
        long many = 0;
        for (Tree tree : all(inputs)) {
            many += places(tree).isEmpty() ? 1 : 0;
        }
        return many;
    }

    private boolean isDual(Tree tree) {
        for (int input = 0; input < tree.parts.size(); input++) {
            Tree part = tree.parts.get(input);
            if (!part.isInput() && (ruleAt(tree, input) < 0 || !isDual(part))) {
                return false;
            }
        }
        return true;
    }

    long duals(int inputs) {
        inRange(inputs, 1, 10);
        long many = 0;
        for (Tree tree : all(inputs)) {
            many += isDual(tree) ? 1 : 0;
        }
        return many;
    }

    boolean isConfluent() {
        boolean isSame = true;
        for (int inputs = 1; inputs <= 7; inputs++) {
            for (Tree tree : withThree(inputs)) {
                List<int[]> places = places(tree);
                List<TreeMap<Tree, BigInteger>> ends = new ArrayList<>();
                for (int[] place : places.size() > 1 ? places : new ArrayList<int[]>()) {
                    TreeMap<Tree, BigInteger> sum = new TreeMap<>(Collections.reverseOrder());
                    rewrite(sum, tree, place, BigInteger.ONE);
                    if (!reduceTotal(sum, mostSteps)) {
                        throw new TooLong();
                    }
                    ends.add(sum);
                }
                for (TreeMap<Tree, BigInteger> end : ends) {
                    isSame = isSame && end.equals(ends.get(0));
                }
            }
        }
        return isSame;
    }

    private List<Tree> withThree(int inputs) {
        List<Tree> found = new ArrayList<>();
        for (Tree tree : withOperators(3)) {
            if (tree.inputs() == inputs) {
                found.add(tree);
            }
        }
        return found;
    }

    private List<Tree> withOperators(int many) {
        List<Tree> all = new ArrayList<>();
        if (many == 0) {
            all.add(LEAF);
            return all;
        }
        for (int operator = 0; operator < widths.size(); operator++) {
            for (List<Tree> parts : rowsWithOperators(widths.get(operator), many - 1)) {
                all.add(new Tree(operator, parts));
            }
        }
        return all;
    }

    private List<List<Tree>> rowsWithOperators(int length, int many) {
        List<List<Tree>> rows = new ArrayList<>();
        if (length == 0) {
            if (many == 0) {
                rows.add(new ArrayList<>());
            }
            return rows;
        }
        for (int first = 0; first <= many; first++) {
            for (Tree tree : withOperators(first)) {
                for (List<Tree> rest : rowsWithOperators(length - 1, many - first)) {
                    List<Tree> row = new ArrayList<>();
                    row.add(tree);
                    row.addAll(rest);
                    rows.add(row);
                }
            }
        }
        return rows;
    }

    boolean isInverse(int inputs) {
        inRange(inputs, 1, 8);
        if (widths.contains(3)) {
            throw new UnsupportedOperationException();
        }
        BigInteger[] g = new BigInteger[inputs + 1];
        BigInteger[] f = new BigInteger[inputs + 1];
        g[0] = BigInteger.ZERO;
        for (int i = 1; i <= inputs; i++) {
            f[i] = BigInteger.valueOf(normals(i));
            g[i] = BigInteger.valueOf(i % 2 == 1 ? duals(i) : -duals(i));
        }
        BigInteger[] all = new BigInteger[inputs + 1];
        BigInteger[] power = new BigInteger[inputs + 1];
        for (int i = 0; i <= inputs; i++) {
            all[i] = BigInteger.ZERO;
            power[i] = i == 0 ? BigInteger.ONE : BigInteger.ZERO;
        }
        for (int k = 1; k <= inputs; k++) {
            BigInteger[] next = new BigInteger[inputs + 1];
            for (int i = 0; i <= inputs; i++) {
                next[i] = BigInteger.ZERO;
                for (int j = 0; j <= i; j++) {
                    next[i] = next[i].add(power[j].multiply(g[i - j]));
                }
                all[i] = all[i].add(next[i].multiply(f[k]));
            }
            power = next;
        }
        for (int i = 1; i <= inputs; i++) {
            if (!all[i].equals(i == 1 ? BigInteger.ONE : BigInteger.ZERO)) {
                return false;
            }
        }
        return true;
    }

    // Shrubs

    private static String shape(List<Integer> below, int knot) {
        List<String> parts = new ArrayList<>();
        for (int i = knot + 1; i < below.size(); i++) {
            if (below.get(i) == knot) {
                parts.add(shape(below, i));
            }
        }
        Collections.sort(parts);
        return "(" + String.join("", parts) + ")";
    }

    int shrub() {
        if (typed.isEmpty() || typed.size() > 8 || typed.get(0) != 0) {
            throw new UnsupportedOperationException();
        }
        for (int i = 1; i < typed.size(); i++) {
            if (typed.get(i) >= i) {
                throw new UnsupportedOperationException();
            }
        }
        for (int i = 0; i < shrubs.size(); i++) {
            if (shape(shrubs.get(i), 0).equals(shape(typed, 0))) {
                return i;
            }
        }
        if (shrubs.size() == 12) {
            throw new IllegalStateException();
        }
        shrubs.add(new ArrayList<>(typed));
        return shrubs.size() - 1;
    }

    int knots(int shrub) {
        return at(shrubs, shrub).size();
    }

    /** Goes through the orders of all knots, and counts those in which each lower one is ahead. */
    private static int orders(List<Integer> below, int taken, int many) {
        if (many == below.size()) {
            return 1;
        }
        int all = 0;
        for (int i = 0; i < below.size(); i++) {
            boolean isFree = (taken >> i & 1) == 0;
            boolean isNext = i == 0 || (taken >> below.get(i) & 1) == 1;
            if (isFree && isNext) {
                all += orders(below, taken | 1 << i, many + 1);
            }
        }
        return all;
    }

    int growths(int shrub) {
        return orders(at(shrubs, shrub), 0, 0);
    }

    /** Puts knots onto knots one by one, each lower one onto that of the knot's image. */
    private static int symmetries(List<Integer> below, int[] image, int many) {
        if (many == below.size()) {
            return 1;
        }
        int all = 0;
        for (int to = 0; to < below.size(); to++) {
            boolean isFree = true;
            for (int i = 0; i < many; i++) {
                isFree = isFree && image[i] != to;
            }
            boolean isRoot = many == 0 || to == 0;
            boolean fits = isRoot ? many == 0 && to == 0 : below.get(to) == image[below.get(many)];
            if (isFree && fits) {
                image[many] = to;
                all += symmetries(below, image, many + 1);
            }
        }
        return all;
    }

    int symmetry(int shrub) {
        List<Integer> below = at(shrubs, shrub);
        return symmetries(below, new int[below.size()], 0);
    }

    private static boolean isAbove(List<Integer> below, int knot, int lower) {
        int now = knot;
        while (now > lower) {
            now = below.get(now);
        }
        return now == lower;
    }

    int density(int shrub) {
        List<Integer> below = at(shrubs, shrub);
        int product = 1;
        for (int knot = 0; knot < below.size(); knot++) {
            int many = 0;
            for (int i = 0; i < below.size(); i++) {
                many += isAbove(below, i, knot) ? 1 : 0;
            }
            product *= many;
        }
        return product;
    }

    int cuts(int shrub, int trunk) {
        List<Integer> below = at(shrubs, shrub);
        List<Integer> part = at(shrubs, trunk);
        int many = 0;
        // A branch is told by its upper knot.
        for (int cut = 0; cut < 1 << below.size(); cut += 2) {
            if (isCut(below, cut) && shape(trunkOf(below, cut), 0).equals(shape(part, 0))) {
                many++;
            }
        }
        return many;
    }

    private static boolean isCut(List<Integer> below, int cut) {
        for (int one = 1; one < below.size(); one++) {
            for (int other = one + 1; other < below.size(); other++) {
                boolean areBoth = (cut >> one & 1) == 1 && (cut >> other & 1) == 1;
                if (areBoth && isAbove(below, other, one)) {
                    return false;
                }
            }
        }
        return true;
    }

    private static List<Integer> trunkOf(List<Integer> below, int cut) {
        List<Integer> trunk = new ArrayList<>();
        int[] number = new int[below.size()];
        for (int knot = 0; knot < below.size(); knot++) {
            boolean stays = true;
            for (int i = 1; i < below.size(); i++) {
                if ((cut >> i & 1) == 1 && isAbove(below, knot, i)) {
                    stays = false;
                }
            }
            if (stays) {
                number[knot] = trunk.size();
                trunk.add(knot == 0 ? 0 : number[below.get(knot)]);
            }
        }
        return trunk;
    }

    int grafts(int shrub, int graft, int result) {
        List<Integer> base = at(shrubs, shrub);
        List<Integer> top = at(shrubs, graft);
        List<Integer> third = at(shrubs, result);
        int many = 0;
        for (int knot = 0; knot < base.size(); knot++) {
            List<Integer> both = new ArrayList<>(base);
            both.add(knot);
            for (int i = 1; i < top.size(); i++) {
                both.add(base.size() + top.get(i));
            }
            if (shape(both, 0).equals(shape(third, 0))) {
                many++;
            }
        }
        return many;
    }

    // Methods

    int stages(int many) {
        inRange(many, 1, 4);
        int former = stages;
        stages = many;
        stepUpper = new int[4][4];
        lastUpper = new int[4];
        return former;
    }

    private void stage(int number) {
        if (number < 0 || number >= stages) {
            throw new IndexOutOfBoundsException();
        }
    }

    int step(int from, int to, int upper, int lower) {
        stage(from);
        stage(to);
        inRange(upper, -99, 99);
        inRange(lower, 1, 99);
        stepUpper[from][to] = upper;
        stepLower[from][to] = lower;
        int many = 0;
        for (int[] line : stepUpper) {
            for (int number : line) {
                many += number != 0 ? 1 : 0;
            }
        }
        return many;
    }

    int last(int number, int upper, int lower) {
        stage(number);
        inRange(upper, -99, 99);
        inRange(lower, 1, 99);
        lastUpper[number] = upper;
        lastLower[number] = lower;
        int many = 0;
        for (int one : lastUpper) {
            many += one != 0 ? 1 : 0;
        }
        return many;
    }

    /** A fraction, in lowest terms. */
    static final class Fraction {
        final BigInteger upper;
        final BigInteger lower;

        Fraction(BigInteger upper, BigInteger lower) {
            BigInteger common = upper.gcd(lower);
            this.upper = upper.divide(common);
            this.lower = lower.divide(common);
        }

        static Fraction of(long upper, long lower) {
            return new Fraction(BigInteger.valueOf(upper), BigInteger.valueOf(lower));
        }

        Fraction plus(Fraction other) {
            return new Fraction(upper.multiply(other.lower).add(other.upper.multiply(lower)),
                    lower.multiply(other.lower));
        }

        Fraction times(Fraction other) {
            return new Fraction(upper.multiply(other.upper), lower.multiply(other.lower));
        }
    }

    private Fraction weightIn(List<Integer> below, int knot, int stage) {
        Fraction product = Fraction.of(1, 1);
        for (int i = knot + 1; i < below.size(); i++) {
            if (below.get(i) == knot) {
                Fraction sum = Fraction.of(0, 1);
                for (int other = 0; other < stages; other++) {
                    if (stepUpper[stage][other] != 0) {
                        sum = sum.plus(Fraction.of(stepUpper[stage][other], stepLower[stage][other])
                                .times(weightIn(below, i, other)));
                    }
                }
                product = product.times(sum);
            }
        }
        return product;
    }

    Fraction weightOf(List<Integer> below) {
        Fraction sum = Fraction.of(0, 1);
        for (int stage = 0; stage < stages; stage++) {
            if (lastUpper[stage] != 0) {
                sum = sum.plus(Fraction.of(lastUpper[stage], lastLower[stage])
                        .times(weightIn(below, 0, stage)));
            }
        }
        return sum;
    }

    long weight(int shrub, boolean isUpper) {
        Fraction weight = weightOf(at(shrubs, shrub));
        BigInteger number = isUpper ? weight.upper : weight.lower;
        if (!isLong(number)) {
            throw new ArithmeticException();
        }
        return number.longValueExact();
    }

    int order() {
        for (int knots = 1; knots <= 5; knots++) {
            List<List<Integer>> rows = new ArrayList<>();
            rows.add(new ArrayList<>(List.of(0)));
            for (int i = 1; i < knots; i++) {
                List<List<Integer>> longer = new ArrayList<>();
                for (List<Integer> row : rows) {
                    for (int lower = 0; lower < i; lower++) {
                        List<Integer> next = new ArrayList<>(row);
                        next.add(lower);
                        longer.add(next);
                    }
                }
                rows = longer;
            }
            for (List<Integer> row : rows) {
                int product = 1;
                for (int knot = 0; knot < knots; knot++) {
                    int many = 0;
                    for (int i = 0; i < knots; i++) {
                        many += isAbove(row, i, knot) ? 1 : 0;
                    }
                    product *= many;
                }
                Fraction weight = weightOf(row);
                if (!weight.upper.equals(BigInteger.ONE)
                        || !weight.lower.equals(BigInteger.valueOf(product))) {
                    return knots - 1;
                }
            }
        }
        return 5;
    }

    // Words

    int word() {
        if (typed.isEmpty() || typed.size() > 8) {
            throw new UnsupportedOperationException();
        }
        for (int letter : typed) {
            if (letter > 2) {
                throw new UnsupportedOperationException();
            }
        }
        for (int i = 0; i < words.size(); i++) {
            if (words.get(i).equals(typed)) {
                return i;
            }
        }
        if (words.size() == 12) {
            throw new IllegalStateException();
        }
        words.add(new ArrayList<>(typed));
        return words.size() - 1;
    }

    private static String text(List<Integer> word) {
        StringBuilder text = new StringBuilder();
        for (int letter : word) {
            text.append(letter);
        }
        return text.toString();
    }

    /** Texts of digits are in the document's order as String compares them. */
    static boolean isLyndon(String word) {
        for (int i = 1; i < word.length(); i++) {
            if (word.compareTo(word.substring(i)) >= 0) {
                return false;
            }
        }
        return !word.isEmpty();
    }

    /** All rows of Lyndon words, none lower than the next one, that are the word. */
    private static void split(String rest, List<String> row, List<List<String>> found) {
        if (rest.isEmpty()) {
            found.add(new ArrayList<>(row));
        }
        for (int i = 1; i <= rest.length(); i++) {
            String head = rest.substring(0, i);
            boolean fits = row.isEmpty() || row.get(row.size() - 1).compareTo(head) >= 0;
            if (fits && isLyndon(head)) {
                row.add(head);
                split(rest.substring(i), row, found);
                row.remove(row.size() - 1);
            }
        }
    }

    private List<String> factorsOf(int word) {
        List<List<String>> found = new ArrayList<>();
        split(text(at(words, word)), new ArrayList<>(), found);
        if (found.size() != 1) {
            throw new AssertionError("a word has " + found.size() + " rows of factors");
        }
        return found.get(0);
    }

    int factors(int word) {
        return factorsOf(word).size();
    }

    int factor(int word, int index) {
        List<String> all = factorsOf(word);
        if (index < 0 || index >= all.size()) {
            throw new NoSuchElementException();
        }
        return all.get(index).length();
    }

    private static Map<String, Integer> bracket(String word) {
        Map<String, Integer> sum = new TreeMap<>();
        if (word.length() == 1) {
            sum.put(word, 1);
            return sum;
        }
        int cut = 1;
        while (!isLyndon(word.substring(cut))) {
            cut++;
        }
        Map<String, Integer> x = bracket(word.substring(0, cut));
        Map<String, Integer> y = bracket(word.substring(cut));
        for (Map.Entry<String, Integer> one : x.entrySet()) {
            for (Map.Entry<String, Integer> two : y.entrySet()) {
                int amount = one.getValue() * two.getValue();
                sum.merge(one.getKey() + two.getKey(), amount, Integer::sum);
                sum.merge(two.getKey() + one.getKey(), -amount, Integer::sum);
            }
        }
        return sum;
    }

    int bracketed(int word, int other) {
        String one = text(at(words, word));
        String two = text(at(words, other));
        if (!isLyndon(one)) {
            throw new UnsupportedOperationException();
        }
        return bracket(one).getOrDefault(two, 0);
    }

    int shuffles(int one, int other, int word) {
        String first = text(at(words, one));
        String second = text(at(words, other));
        String whole = text(at(words, word));
        int many = 0;
        for (int places = 0; places < 1 << whole.length(); places++) {
            StringBuilder in = new StringBuilder();
            StringBuilder out = new StringBuilder();
            for (int i = 0; i < whole.length(); i++) {
                ((places >> i & 1) == 1 ? in : out).append(whole.charAt(i));
            }
            if (in.toString().equals(first) && out.toString().equals(second)) {
                many++;
            }
        }
        return many;
    }

    static long lyndons(int letters, int length) {
        inRange(letters, 1, 9);
        inRange(length, 1, 12);
        long words = 1;
        for (int i = 0; i < length; i++) {
            words *= letters;
        }
        if (words > 100000) {
            throw new TooLong();
        }
        long many = 0;
        for (long number = 0; number < words; number++) {
            StringBuilder word = new StringBuilder();
            long rest = number;
            for (int i = 0; i < length; i++) {
                word.append(rest % letters);
                rest /= letters;
            }
            many += isLyndon(word.toString()) ? 1 : 0;
        }
        return many;
    }

    /** Trees by inputs and operations, each operation with 2 inputs or more. */
    static long faces(int inputs, int dimension) {
        inRange(inputs, 2, 12);
        int nodes = inputs - 1 - dimension;
        if (dimension < 0 || dimension > inputs) {
            return 0;
        }
        return nodes < 0 ? 0 : bodies(inputs, nodes);
    }

    private static long bodies(int inputs, int nodes) {
        if (inputs == 1) {
            return nodes == 0 ? 1 : 0;
        }
        return nodes == 0 ? 0 : rests(inputs, nodes - 1, 2);
    }

    /** Rows of at least so many trees. */
    private static long rests(int inputs, int nodes, int least) {
        long all = inputs == 0 && nodes == 0 && least <= 0 ? 1 : 0;
        for (int first = 1; first <= inputs; first++) {
            if (first == inputs && least > 1) {
                continue;
            }
            for (int of = 0; of <= nodes && of < first; of++) {
                long one = bodies(first, of);
                if (one != 0) {
                    all += one * rests(inputs - first, nodes - of, least - 1);
                }
            }
        }
        return all;
    }

    long checksum() {
        long check = 7;
        for (TreeMap<Tree, BigInteger> sum : sums) {
            for (Map.Entry<Tree, BigInteger> term : sum.entrySet()) {
                check = 31 * check + term.getValue().longValueExact();
                String row = term.getKey().row();
                for (int i = 0; i < row.length(); i++) {
                    check = 31 * check + (row.charAt(i) - '0');
                }
            }
        }
        return check;
    }

    float normalShare(int inputs) {
        inRange(inputs, 1, 10);
        int all = all(inputs).size();
        if (all == 0) {
            throw new ArithmeticException();
        }
        return (float) normals(inputs) / (float) (long) all;
    }

    double meanTerms() {
        if (sums.isEmpty()) {
            throw new ArithmeticException();
        }
        long all = 0;
        for (TreeMap<Tree, BigInteger> sum : sums) {
            all += sum.size();
        }
        return (double) all / (double) sums.size();
    }
}
