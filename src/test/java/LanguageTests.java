import com.sun.source.tree.AssertTree;
import com.sun.source.tree.BinaryTree;
import com.sun.source.tree.CatchTree;
import com.sun.source.tree.ClassTree;
import com.sun.source.tree.CompilationUnitTree;
import com.sun.source.tree.ExpressionTree;
import com.sun.source.tree.ImportTree;
import com.sun.source.tree.LambdaExpressionTree;
import com.sun.source.tree.LiteralTree;
import com.sun.source.tree.MemberReferenceTree;
import com.sun.source.tree.MethodInvocationTree;
import com.sun.source.tree.MethodTree;
import com.sun.source.tree.NewClassTree;
import com.sun.source.tree.SynchronizedTree;
import com.sun.source.tree.ThrowTree;
import com.sun.source.tree.Tree;
import com.sun.source.tree.TryTree;
import com.sun.source.tree.VariableTree;
import com.sun.source.util.JavacTask;
import com.sun.source.util.TreePathScanner;
import com.sun.source.util.Trees;
import java.io.IOException;
import java.nio.file.Path;
import java.util.HashSet;
import java.util.Map;
import java.util.Set;
import java.util.TreeMap;
import java.util.TreeSet;
import javax.lang.model.element.Element;
import javax.lang.model.element.ElementKind;
import javax.lang.model.element.Modifier;
import javax.tools.StandardJavaFileManager;
import javax.tools.ToolProvider;

/** What can be seen of the rules of LANGUAGE.md in the text of the class. */
public final class LanguageTests extends TreePathScanner<Void, Void> {
    private static final String SOURCE = "src/main/java/Operadry.java";
    private static final int MOST_CLASSES = 12;
    private static final int MOST_FIELDS = 20;
    private static final int MOST_PARAMETERS = 7;
    private static final int MOST_LINES = 60;
    private static final int MOST_DEEP = 8;

    private static final Set<String> LIBRARY = Set.of("ArrayList.<init>", "ArrayList.add",
            "ArrayList.get", "ArrayList.set", "ArrayList.remove", "ArrayList.size",
            "ArrayList.isEmpty", "ArrayList.clear", "System.arraycopy", "Arrays.copyOf",
            "Arrays.copyOfRange", "Arrays.fill", "Math.max", "Math.min", "Math.abs",
            "Math.floorMod", "Math.floorDiv", "Integer.bitCount", "Integer.compare",
            "Long.bitCount", "Long.compare", "Object.<init>");
    private static final Set<String> EXCEPTIONS = Set.of("IllegalStateException",
            "IllegalArgumentException", "IndexOutOfBoundsException", "ArithmeticException",
            "UnsupportedOperationException", "NoSuchElementException", "RuntimeException");

    private final Check check = new Check();
    private final Trees trees;
    private final CompilationUnitTree unit;
    private final Map<String, Set<String>> calls = new TreeMap<>();
    private final Set<String> shown = new TreeSet<>();
    private final Set<String> hidden = new TreeSet<>();
    private int classes;
    private String method = "";
    private boolean isInConstructor;

    private LanguageTests(Trees trees, CompilationUnitTree unit) {
        this.trees = trees;
        this.unit = unit;
    }

    public static void main(String[] args) throws IOException {
        try (StandardJavaFileManager files = ToolProvider.getSystemJavaCompiler()
                .getStandardFileManager(null, null, null)) {
            JavacTask task = (JavacTask) ToolProvider.getSystemJavaCompiler().getTask(null, files,
                    null, null, null, files.getJavaFileObjects(Path.of(SOURCE)));
            CompilationUnitTree unit = task.parse().iterator().next();
            task.analyze();
            LanguageTests tests = new LanguageTests(Trees.instance(task), unit);
            tests.scan(unit, null);
            tests.whole();
            tests.check.end();
        }
    }

    private void keeps(int rule, String what, boolean isKept) {
        check.due("rule " + rule + ": " + what + " in " + method, isKept, true);
    }

    private void whole() {
        method = "the whole";
        keeps(1, "no package line", unit.getPackageName() == null);
        keeps(11, classes + " classes", classes <= MOST_CLASSES);
        Set<String> both = new TreeSet<>(shown);
        both.retainAll(hidden);
        check.dueText("rule 1: private methods with names of public ones", both.toString(), "[]");
        for (String name : calls.keySet()) {
            int deep = depth(name, new HashSet<>());
            check.due("rule 11: calls from " + name + " go " + deep + " deep", deep <= MOST_DEEP,
                    true);
        }
    }

    /** The longest chain of calls in which none comes again. */
    private int depth(String name, Set<String> above) {
        int most = 0;
        above.add(name);
        for (String next : calls.getOrDefault(name, Set.of())) {
            if (!above.contains(next)) {
                most = Math.max(most, depth(next, above));
            }
        }
        above.remove(name);
        return most + 1;
    }

    @Override
    public Void visitImport(ImportTree tree, Void none) {
        String name = tree.getQualifiedIdentifier().toString();
        keeps(4, name, Set.of("java.util.ArrayList", "java.util.Arrays", "java.util.List",
                "java.util.NoSuchElementException").contains(name));
        return null;
    }

    @Override
    public Void visitClass(ClassTree tree, Void none) {
        classes++;
        int fields = 0;
        for (Tree member : tree.getMembers()) {
            boolean isField = member instanceof VariableTree;
            if (isField && !isStatic(((VariableTree) member).getModifiers().getFlags())) {
                fields++;
            }
            keeps(5, "no block of " + tree.getSimpleName(), member.getKind() != Tree.Kind.BLOCK);
        }
        keeps(11, fields + " fields of " + tree.getSimpleName(), fields <= MOST_FIELDS);
        return super.visitClass(tree, none);
    }

    private static boolean isStatic(Set<Modifier> flags) {
        return flags.contains(Modifier.STATIC);
    }

    @Override
    public Void visitVariable(VariableTree tree, Void none) {
        Set<Modifier> flags = tree.getModifiers().getFlags();
        boolean isField = trees.getElement(getCurrentPath()).getKind() == ElementKind.FIELD;
        if (isField) {
            keeps(5, tree.getName() + " is final", !isStatic(flags)
                    || flags.contains(Modifier.FINAL));
        }
        return super.visitVariable(tree, none);
    }

    @Override
    public Void visitMethod(MethodTree tree, Void none) {
        method = nameOf(trees.getElement(getCurrentPath()));
        isInConstructor = tree.getReturnType() == null;
        calls.putIfAbsent(method, new TreeSet<>());
        Set<Modifier> flags = tree.getModifiers().getFlags();
        if (isInConstructor) {
            keeps(6, "no exception", tree.getThrows().isEmpty());
        } else if (flags.contains(Modifier.PUBLIC)) {
            shown.add(tree.getName().toString());
        } else if (flags.contains(Modifier.PRIVATE)) {
            hidden.add(tree.getName().toString());
        }
        long first = unit.getLineMap().getLineNumber(trees.getSourcePositions()
                .getStartPosition(unit, tree));
        long last = unit.getLineMap().getLineNumber(trees.getSourcePositions()
                .getEndPosition(unit, tree));
        keeps(11, last - first + 1 + " lines", last - first < MOST_LINES);
        keeps(11, "parameters", tree.getParameters().size() <= MOST_PARAMETERS);
        keeps(6, "no method of every object", !Set.of("equals", "hashCode", "toString",
                "finalize").contains(tree.getName().toString()));
        super.visitMethod(tree, none);
        method = "";
        return null;
    }

    private static String nameOf(Element called) {
        return called.getEnclosingElement().getSimpleName() + "." + called.getSimpleName();
    }

    @Override
    public Void visitMethodInvocation(MethodInvocationTree tree, Void none) {
        call(trees.getElement(getCurrentPath()));
        return super.visitMethodInvocation(tree, none);
    }

    @Override
    public Void visitNewClass(NewClassTree tree, Void none) {
        call(trees.getElement(getCurrentPath()));
        return super.visitNewClass(tree, none);
    }

    private void call(Element called) {
        Element top = called.getEnclosingElement();
        while (top.getEnclosingElement().getKind().isClass()) {
            top = top.getEnclosingElement();
        }
        String name = nameOf(called);
        if (top.getSimpleName().contentEquals("Operadry")) {
            calls.computeIfAbsent(method, key -> new TreeSet<>()).add(name);
        } else {
            keeps(4, name, LIBRARY.contains(name)
                    || EXCEPTIONS.contains(name.replace(".<init>", "")));
        }
    }

    @Override
    public Void visitThrow(ThrowTree tree, Void none) {
        ExpressionTree thrown = tree.getExpression();
        boolean isMade = thrown instanceof NewClassTree
                && EXCEPTIONS.contains(((NewClassTree) thrown).getIdentifier().toString());
        keeps(6, tree.toString(), isMade && !isInConstructor);
        for (ExpressionTree text : isMade ? ((NewClassTree) thrown).getArguments()
                : java.util.List.<ExpressionTree>of()) {
            keeps(6, "a written text", text instanceof LiteralTree);
        }
        return super.visitThrow(tree, none);
    }

    @Override
    public Void visitTry(TryTree tree, Void none) {
        keeps(6, "try", tree.getFinallyBlock() == null && tree.getResources().isEmpty());
        return super.visitTry(tree, none);
    }

    @Override
    public Void visitCatch(CatchTree tree, Void none) {
        String kind = tree.getParameter().getType().toString();
        keeps(6, "catch of " + kind, Set.of("IllegalStateException", "IllegalArgumentException",
                "UnsupportedOperationException", "NoSuchElementException").contains(kind));
        return super.visitCatch(tree, none);
    }

    @Override
    public Void visitLiteral(LiteralTree tree, Void none) {
        if (tree.getValue() instanceof String text) {
            keeps(4, text, text.chars().allMatch(sign -> sign >= 1 && sign <= 127));
        }
        return super.visitLiteral(tree, none);
    }

    @Override
    public Void visitBinary(BinaryTree tree, Void none) {
        String type = trees.getTypeMirror(getCurrentPath()).toString();
        keeps(10, tree.toString(), !type.equals("java.lang.String"));
        return super.visitBinary(tree, none);
    }

    @Override
    public Void visitLambdaExpression(LambdaExpressionTree tree, Void none) {
        keeps(2, tree.toString(), false);
        return super.visitLambdaExpression(tree, none);
    }

    @Override
    public Void visitMemberReference(MemberReferenceTree tree, Void none) {
        keeps(2, tree.toString(), false);
        return super.visitMemberReference(tree, none);
    }

    @Override
    public Void visitAssert(AssertTree tree, Void none) {
        keeps(6, tree.toString(), false);
        return super.visitAssert(tree, none);
    }

    @Override
    public Void visitSynchronized(SynchronizedTree tree, Void none) {
        keeps(6, tree.toString(), false);
        return super.visitSynchronized(tree, none);
    }
}
