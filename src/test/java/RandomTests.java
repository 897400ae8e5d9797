import java.util.NoSuchElementException;

/** Runs of calls by a fixed row of numbers, answered by the class and by the model alike. */
public final class RandomTests {
    private static final int MOST_CALLS = 500;

    private final Check check;
    private long seed;
    private Operadry x;
    private Model model;
    private StringBuilder told;
    private int calls;

    private RandomTests(Check check) {
        this.check = check;
    }

    public static void main(String[] args) {
        int runs = args.length > 0 ? Integer.parseInt(args[0]) : 60;
        long first = args.length > 1 ? Long.parseLong(args[1]) : 1;
        Check check = new Check();
        RandomTests tests = new RandomTests(check);
        for (int run = 0; run < runs; run++) {
            tests.runTrees(first + 5L * run);
            tests.runShrubs(first + 5L * run + 1);
            tests.runWords(first + 5L * run + 2);
            tests.runMixed(first + 5L * run + 3);
            tests.runRules(first + 5L * run + 4);
            if (run % 10 == 0) {
                tests.runMany(first + 5L * run + 4);
            }
        }
        tests.compareCounts();
        check.end();
    }

    private int next(int many) {
        seed = seed * 6364136223846793005L + 1442695040888963407L;
        return (int) ((seed >>> 33) % many);
    }

    private void begin(long number) {
        seed = number * 0x9E3779B97F4A7C15L + 12345;
        next(2);
        x = new Operadry();
        model = new Model();
        told = new StringBuilder("run " + number + ":");
        calls = 0;
    }

    /** An answer as a text; an exception by its name. */
    private static String answer(Check.Call call) {
        try {
            return Long.toString(call.run());
        } catch (Model.TooLong e) {
            return null;
        } catch (IndexOutOfBoundsException | IllegalArgumentException | IllegalStateException
                | UnsupportedOperationException | ArithmeticException | NoSuchElementException e) {
            return e.getClass().getSimpleName();
        }
    }

    /** Calls the model first: where that would take too long, the class is not asked either. */
    private String both(String call, Check.Call ofModel, Check.Call ofClass) {
        if (calls >= MOST_CALLS) {
            return "";
        }
        String want = answer(ofModel);
        if (want == null) {
            return "";
        }
        calls++;
        told.append(' ').append(call);
        String got = answer(ofClass);
        check.dueText(told.length() < 3000 ? told.toString() : call + " in " + told.substring(0, 12),
                got, want);
        return want;
    }

    private static long bit(boolean is) {
        return is ? 1 : 0;
    }

    private void type(int sign) {
        both("type(" + sign + ")", () -> model.type(sign), () -> x.type(sign));
    }

    private void wipe() {
        both("wipe()", () -> model.wipe(), () -> x.wipe());
    }

    /** Types a tree with at most so many operations. */
    private void typeTree(int most) {
        wipe();
        if (!model.widths.isEmpty()) {
            int left = next(most + 1);
            typePart(new int[] {left}, 0);
        } else {
            type(9);
        }
        if (next(12) == 0) {
            type(next(12) - 1);
        }
        both("tree()", () -> model.tree(), () -> x.tree());
    }

    private void typePart(int[] left, int depth) {
        if (left[0] <= 0 || depth > 0 && next(3) == 0) {
            type(9);
            return;
        }
        left[0]--;
        int operator = next(model.widths.size());
        type(operator);
        for (int i = 0; i < model.widths.get(operator); i++) {
            typePart(left, depth + 1);
        }
    }

    private int of(int size) {
        return next(20) == 0 ? next(size + 4) - 2 : size == 0 ? 0 : next(size);
    }

    private void runTrees(long number) {
        begin(number);
        int kind = next(4);
        int operations = kind == 0 ? 1 : 1 + next(4);
        for (int i = 0; i < operations; i++) {
            int width = kind < 2 ? 2 : 2 + next(2);
            both("operation(" + width + ")", () -> model.operation(width), () -> x.operation(width));
        }
        for (int i = 0; i < 6; i++) {
            typeTree(2 + next(4));
        }
        for (int i = 0; i < 90; i++) {
            treeCall(next(22));
        }
        finish();
    }

    private void treeCall(int choice) {
        int tree = of(model.trees.size());
        int other = of(model.trees.size());
        int sum = of(model.sums.size());
        if (choice < 4) {
            typeTree(choice == 0 ? 8 : 2 + next(2));
        } else if (choice == 4) {
            int input = next(8) - 1;
            both("compose(" + tree + ", " + input + ", " + other + ")",
                    () -> model.compose(tree, input, other), () -> x.compose(tree, input, other));
        } else if (choice == 5) {
            both("compare(" + tree + ", " + other + ")", () -> model.compare(tree, other),
                    () -> x.compare(tree, other));
        } else if (choice == 6) {
            both("sum()", () -> model.sum(), () -> x.sum());
        } else if (choice < 11) {
            int amount = next(15) == 0 ? next(240) - 120 : next(7) - 3;
            both("add(" + sum + ", " + tree + ", " + amount + ")",
                    () -> model.add(sum, tree, amount), () -> x.add(sum, tree, amount));
        } else if (choice < 13) {
            both("rule(" + tree + ", " + sum + ")", () -> model.rule(tree, sum),
                    () -> x.rule(tree, sum));
        } else if (choice == 13) {
            makeRule();
        } else if (choice < 16) {
            both("reduce(" + sum + ")", () -> model.reduce(sum), () -> x.reduce(sum));
        } else if (choice == 16) {
            both("isNormal(" + tree + ")", () -> bit(model.isNormal(tree)),
                    () -> bit(x.isNormal(tree)));
        } else if (choice == 17) {
            int inputs = next(7) == 0 ? next(13) - 1 : 1 + next(5);
            both("normals(" + inputs + ")", () -> model.normals(inputs), () -> x.normals(inputs));
            both("duals(" + inputs + ")", () -> model.duals(inputs), () -> x.duals(inputs));
        } else {
            askTrees(choice, tree, sum);
        }
    }

    private void askTrees(int choice, int tree, int sum) {
        int place = next(12) - 1;
        int term = next(5) - 1;
        if (choice == 18) {
            both("isConfluent()", () -> bit(model.isConfluent()), () -> bit(x.isConfluent()));
            int inputs = next(10) == 0 ? next(11) - 1 : 1 + next(4);
            both("isInverse(" + inputs + ")", () -> bit(model.isInverse(inputs)),
                    () -> bit(x.isInverse(inputs)));
        } else if (choice == 19) {
            both("signAt(" + tree + ", " + place + ")", () -> model.signAt(tree, place),
                    () -> x.signAt(tree, place));
            both("inputs(" + tree + ")", () -> model.inputs(tree), () -> x.inputs(tree));
        } else if (choice == 20) {
            both("terms(" + sum + ")", () -> model.terms(sum), () -> x.terms(sum));
            both("amount(" + sum + ", " + term + ")", () -> model.amount(sum, term),
                    () -> x.amount(sum, term));
            both("termSign(" + sum + ", " + term + ", " + place + ")",
                    () -> model.termSign(sum, term, place), () -> x.termSign(sum, term, place));
        } else {
            both("checksum()", () -> model.checksum(), () -> x.checksum());
            both("meanTerms()", () -> Double.doubleToLongBits(model.meanTerms()),
                    () -> Double.doubleToLongBits(x.meanTerms()));
            int inputs = 1 + next(5);
            both("normalShare(" + inputs + ")",
                    () -> Float.floatToIntBits(model.normalShare(inputs)),
                    () -> Float.floatToIntBits(x.normalShare(inputs)));
        }
    }

    /** Tells a rule whose left side is a tree of two operations, as it stands, and a lower sum. */
    private void makeRule() {
        int sum = model.sums.size();
        both("sum()", () -> model.sum(), () -> x.sum());
        for (int tree = 0; tree < model.trees.size(); tree++) {
            if (model.trees.get(tree).operators() == 2 && next(3) == 0) {
                int left = tree;
                for (int i = 0; i < model.trees.size(); i++) {
                    int right = i;
                    if (model.trees.get(right).inputs() == model.trees.get(left).inputs()
                            && model.trees.get(right).compareTo(model.trees.get(left)) < 0) {
                        int amount = next(5) - 2;
                        both("add(" + sum + ", " + right + ", " + amount + ")",
                                () -> model.add(sum, right, amount), () -> x.add(sum, right, amount));
                    }
                }
                both("rule(" + left + ", " + sum + ")", () -> model.rule(left, sum),
                        () -> x.rule(left, sum));
                return;
            }
        }
    }

    /** Many rules of the trees with two operations, and sums that have much to be reduced. */
    private void runRules(long number) {
        begin(number);
        int operations = 1 + next(3);
        boolean isWide = next(3) == 0;
        for (int i = 0; i < operations; i++) {
            int width = isWide ? 2 + next(2) : 2;
            both("operation(" + width + ")", () -> model.operation(width), () -> x.operation(width));
        }
        int rules = 1 + next(9);
        for (int i = 0; i < 4 + 2 * rules; i++) {
            typeTwo();
        }
        int most = next(3) == 0 ? 99 : 2;
        for (int i = 0; i < rules; i++) {
            tellRule(next(model.trees.size()), most);
        }
        both("isConfluent()", () -> bit(model.isConfluent()), () -> bit(x.isConfluent()));
        for (int i = 0; i < 4; i++) {
            fillAndReduce(most);
        }
        finish();
    }

    /** A tree with two operations. */
    private void typeTwo() {
        wipe();
        int upper = next(model.widths.size());
        int lower = next(model.widths.size());
        int input = next(model.widths.get(upper));
        type(upper);
        for (int i = 0; i < model.widths.get(upper); i++) {
            type(i == input ? lower : 9);
            for (int j = 0; i == input && j < model.widths.get(lower); j++) {
                type(9);
            }
        }
        both("tree()", () -> model.tree(), () -> x.tree());
    }

    private void tellRule(int left, int most) {
        Model.Tree tree = model.trees.get(left);
        int sum = model.sums.size();
        if (tree.operators() != 2) {
            return;
        }
        both("sum()", () -> model.sum(), () -> x.sum());
        for (int i = 0; i < model.trees.size(); i++) {
            int right = i;
            if (model.trees.get(right).inputs() == tree.inputs() && next(3) > 0
                    && model.trees.get(right).compareTo(tree) < 0) {
                int amount = next(2 * most + 1) - most;
                both("add(" + sum + ", " + right + ", " + amount + ")",
                        () -> model.add(sum, right, amount), () -> x.add(sum, right, amount));
            }
        }
        both("rule(" + left + ", " + sum + ")", () -> model.rule(left, sum), () -> x.rule(left, sum));
    }

    /** Trees with as many inputs are put into one sum, which is then reduced, twice at times. */
    private void fillAndReduce(int most) {
        int sum = model.sums.size();
        both("sum()", () -> model.sum(), () -> x.sum());
        if (sum >= model.sums.size()) {
            return;
        }
        int inputs = 3 + next(4);
        for (int i = 0; i < 6; i++) {
            growTree(inputs, false);
            int tree = model.trees.size() - 1;
            int amount = next(2 * most + 1) - most;
            both("add(" + sum + ", " + tree + ", " + amount + ")",
                    () -> model.add(sum, tree, amount), () -> x.add(sum, tree, amount));
        }
        both("reduce(" + sum + ")", () -> model.reduce(sum), () -> x.reduce(sum));
        for (int i = 0; i < 3; i++) {
            int term = i;
            both("amount(" + sum + ", " + term + ")", () -> model.amount(sum, term),
                    () -> x.amount(sum, term));
        }
        both("checksum()", () -> model.checksum(), () -> x.checksum());
    }

    /** Rules with many trees on their right sides, so that sums come to have many terms. */
    private void runMany(long number) {
        begin(number);
        for (int i = 0; i < 4; i++) {
            both("operation(2)", () -> model.operation(2), () -> x.operation(2));
        }
        for (int i = 0; i < 12; i++) {
            typeTwo();
        }
        int most = next(2) == 0 ? 99 : 1;
        int rules = 1 + next(2);
        for (int i = 0; i < rules; i++) {
            wipe();
            String left = i == 0 ? "33999" : next(2) == 0 ? "39399" : "32999";
            for (int place = 0; place < left.length(); place++) {
                type(left.charAt(place) - '0');
            }
            both("tree()", () -> model.tree(), () -> x.tree());
            tellRule(model.trees.size() - 1, most);
        }
        for (int i = 0; i < 3; i++) {
            fillGreat(most);
        }
        tellRule(next(model.trees.size()), most);
        for (int sum = 0; sum < model.sums.size(); sum++) {
            int again = sum;
            both("reduce(" + again + ")", () -> model.reduce(again), () -> x.reduce(again));
        }
        finish();
    }

    /** A great tree, what comes of it, and trees that are added to that. */
    private void fillGreat(int most) {
        int sum = model.sums.size();
        both("sum()", () -> model.sum(), () -> x.sum());
        int inputs = 5 + next(4);
        growTree(inputs, true);
        int great = model.trees.size() - 1;
        both("add(" + sum + ", " + great + ", 1)", () -> model.add(sum, great, 1),
                () -> x.add(sum, great, 1));
        both("reduce(" + sum + ")", () -> model.reduce(sum), () -> x.reduce(sum));
        for (int i = 0; i < 4; i++) {
            int term = next(model.terms(sum) + 1);
            both("amount(" + sum + ", " + term + ")", () -> model.amount(sum, term),
                    () -> x.amount(sum, term));
            int place = next(2 * inputs);
            both("termSign(" + sum + ", " + term + ", " + place + ")",
                    () -> model.termSign(sum, term, place), () -> x.termSign(sum, term, place));
            growTree(inputs, next(2) == 0);
            int tree = model.trees.size() - 1;
            int amount = next(2 * most + 1) - most;
            both("add(" + sum + ", " + tree + ", " + amount + ")",
                    () -> model.add(sum, tree, amount), () -> x.add(sum, tree, amount));
        }
        both("checksum()", () -> model.checksum(), () -> x.checksum());
    }

    /** Types a tree with so many inputs, if its operations can have that; a great one on demand. */
    private void growTree(int inputs, boolean isGreat) {
        StringBuilder row = new StringBuilder("9");
        int many = 1;
        for (int i = 0; i < inputs && many < inputs; i++) {
            boolean isLast = isGreat && next(8) > 0;
            int operator = isLast ? model.widths.size() - 1 : next(model.widths.size());
            int width = model.widths.get(operator);
            int leaf = isGreat && next(4) > 0 ? 0 : next(many);
            int place = 0;
            for (int seen = 0; seen < leaf || row.charAt(place) != '9'; place++) {
                seen += row.charAt(place) == '9' ? 1 : 0;
            }
            row.replace(place, place + 1, operator + (width == 2 ? "99" : "999"));
            many += width - 1;
        }
        wipe();
        for (int i = 0; i < row.length(); i++) {
            type(row.charAt(i) - '0');
        }
        both("tree()", () -> model.tree(), () -> x.tree());
    }

    private void typeShrub() {
        wipe();
        int length = next(12) == 0 ? next(10) : 1 + next(next(2) == 0 ? 4 : 8);
        for (int i = 0; i < length; i++) {
            type(i == 0 ? 0 : next(40) == 0 ? i : next(i));
        }
        both("shrub()", () -> model.shrub(), () -> x.shrub());
    }

    private void runShrubs(long number) {
        begin(number);
        for (int i = 0; i < 5; i++) {
            typeShrub();
        }
        for (int i = 0; i < 90; i++) {
            shrubCall(next(12));
        }
        finish();
    }

    private void shrubCall(int choice) {
        int shrub = of(model.shrubs.size());
        int other = of(model.shrubs.size());
        int third = of(model.shrubs.size());
        if (choice == 0) {
            typeShrub();
        } else if (choice == 1) {
            both("knots(" + shrub + ")", () -> model.knots(shrub), () -> x.knots(shrub));
            both("symmetry(" + shrub + ")", () -> model.symmetry(shrub), () -> x.symmetry(shrub));
            both("density(" + shrub + ")", () -> model.density(shrub), () -> x.density(shrub));
            both("growths(" + shrub + ")", () -> model.growths(shrub), () -> x.growths(shrub));
        } else if (choice < 4) {
            both("cuts(" + shrub + ", " + other + ")", () -> model.cuts(shrub, other),
                    () -> x.cuts(shrub, other));
        } else if (choice < 6) {
            both("grafts(" + shrub + ", " + other + ", " + third + ")",
                    () -> model.grafts(shrub, other, third), () -> x.grafts(shrub, other, third));
        } else {
            methodCall(choice, shrub);
        }
    }

    private void methodCall(int choice, int shrub) {
        int from = of(model.stages);
        int to = of(model.stages);
        int upper = next(30) == 0 ? next(220) - 110 : next(3) == 0 ? next(199) - 99 : next(7) - 3;
        int lower = next(30) == 0 ? next(120) - 10 : next(3) == 0 ? 1 + next(99) : 1 + next(4);
        if (choice == 6 && next(4) == 0) {
            int stages = next(7) == 0 ? next(7) - 1 : 1 + next(4);
            both("stages(" + stages + ")", () -> model.stages(stages), () -> x.stages(stages));
        } else if (choice < 9) {
            both("step(" + from + ", " + to + ", " + upper + ", " + lower + ")",
                    () -> model.step(from, to, upper, lower), () -> x.step(from, to, upper, lower));
        } else if (choice == 9) {
            both("last(" + from + ", " + upper + ", " + lower + ")",
                    () -> model.last(from, upper, lower), () -> x.last(from, upper, lower));
        } else {
            both("weight(" + shrub + ", true)", () -> model.weight(shrub, true),
                    () -> x.weight(shrub, true));
            both("weight(" + shrub + ", false)", () -> model.weight(shrub, false),
                    () -> x.weight(shrub, false));
            both("order()", () -> model.order(), () -> x.order());
        }
    }

    private void typeWord() {
        wipe();
        int length = next(15) == 0 ? next(10) : 1 + next(next(2) == 0 ? 4 : 8);
        int letters = 2 + next(2);
        for (int i = 0; i < length; i++) {
            type(next(50) == 0 ? 3 : next(letters));
        }
        both("word()", () -> model.word(), () -> x.word());
    }

    private void runWords(long number) {
        begin(number);
        for (int i = 0; i < 8; i++) {
            typeWord();
        }
        for (int i = 0; i < 90; i++) {
            wordCall(next(8));
        }
        finish();
    }

    private void wordCall(int choice) {
        int word = of(model.words.size());
        int other = of(model.words.size());
        int third = of(model.words.size());
        int index = next(9) - 1;
        if (choice == 0) {
            typeWord();
        } else if (choice == 1) {
            both("factors(" + word + ")", () -> model.factors(word), () -> x.factors(word));
            both("factor(" + word + ", " + index + ")", () -> model.factor(word, index),
                    () -> x.factor(word, index));
        } else if (choice < 5) {
            both("bracketed(" + word + ", " + other + ")", () -> model.bracketed(word, other),
                    () -> x.bracketed(word, other));
        } else {
            both("shuffles(" + word + ", " + other + ", " + third + ")",
                    () -> model.shuffles(word, other, third), () -> x.shuffles(word, other, third));
        }
    }

    private void runMixed(long number) {
        begin(number);
        for (int i = 0; i < 150; i++) {
            int choice = next(10);
            if (choice == 0) {
                int width = next(6) == 0 ? next(6) : 2 + next(2);
                both("operation(" + width + ")", () -> model.operation(width),
                        () -> x.operation(width));
            } else if (choice == 1) {
                type(next(12) - 1);
                both("tree()", () -> model.tree(), () -> x.tree());
                both("shrub()", () -> model.shrub(), () -> x.shrub());
                both("word()", () -> model.word(), () -> x.word());
            } else if (choice < 6) {
                treeCall(next(22));
            } else if (choice < 8) {
                shrubCall(next(12));
            } else {
                wordCall(next(8));
            }
        }
        finish();
    }

    private void finish() {
        both("checksum()", () -> model.checksum(), () -> x.checksum());
        both("isSound()", () -> 1, () -> bit(x.isSound()));
        both("wipe()", () -> model.wipe(), () -> x.wipe());
    }

    private void compareCounts() {
        begin(0);
        for (int letters = -1; letters <= 10; letters++) {
            for (int length = -1; length <= 13; length++) {
                int one = letters;
                int other = length;
                both("lyndons(" + one + ", " + other + ")", () -> Model.lyndons(one, other),
                        () -> x.lyndons(one, other));
            }
        }
        begin(0);
        for (int inputs = 1; inputs <= 13; inputs++) {
            for (int dimension = -1; dimension <= 12; dimension++) {
                int one = inputs;
                int other = dimension;
                both("faces(" + one + ", " + other + ")", () -> Model.faces(one, other),
                        () -> x.faces(one, other));
            }
        }
    }
}
