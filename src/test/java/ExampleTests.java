/** The three examples of the document. */
public final class ExampleTests {
    private ExampleTests() {
    }

    public static void main(String[] args) {
        Check check = new Check();
        binaryTrees(check);
        cherry(check);
        bracket(check);
        check.end();
    }

    private static void binaryTrees(Check check) {
        Operadry x = new Operadry();
        check.due("operation(2)", x.operation(2), 0);
        check.due("wipe()", x.wipe(), 0);
        check.due("type(0)", x.type(0), 1);
        check.due("type(0)", x.type(0), 2);
        check.due("type(9)", x.type(9), 3);
        check.due("type(9)", x.type(9), 4);
        check.due("type(9)", x.type(9), 5);
        check.due("tree()", x.tree(), 0);
        check.due("inputs(0)", x.inputs(0), 3);
        check.due("normals(5)", x.normals(5), 14);
    }

    private static void cherry(Check check) {
        Operadry x = new Operadry();
        check.due("wipe()", x.wipe(), 0);
        check.due("type(0)", x.type(0), 1);
        check.due("type(0)", x.type(0), 2);
        check.due("type(1)", x.type(1), 3);
        check.due("type(1)", x.type(1), 4);
        check.due("shrub()", x.shrub(), 0);
        check.due("symmetry(0)", x.symmetry(0), 2);
        check.due("density(0)", x.density(0), 12);
        check.due("growths(0)", x.growths(0), 2);
    }

    private static void bracket(Check check) {
        Operadry x = new Operadry();
        check.due("wipe()", x.wipe(), 0);
        check.due("type(0)", x.type(0), 1);
        check.due("type(1)", x.type(1), 2);
        check.due("type(1)", x.type(1), 3);
        check.due("word()", x.word(), 0);
        check.due("factors(0)", x.factors(0), 1);
        check.due("bracketed(0, 0)", x.bracketed(0, 0), 1);
        check.due("lyndons(2, 3)", x.lyndons(2, 3), 2);
        check.due("faces(5, 0)", x.faces(5, 0), 14);
    }
}
