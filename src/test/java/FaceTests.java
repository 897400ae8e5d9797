import java.lang.reflect.Constructor;
import java.lang.reflect.Field;
import java.lang.reflect.Method;
import java.lang.reflect.Modifier;
import java.util.ArrayList;
import java.util.List;
import java.util.TreeSet;

/** The public face: what the class shows, and what each method says that it throws. */
public final class FaceTests {
    private static final String[] METHODS = {
        "int operation(int) IllegalArgumentException IllegalStateException",
        "int type(int) IllegalArgumentException IllegalStateException",
        "int wipe()",
        "int tree() UnsupportedOperationException IllegalStateException",
        "int inputs(int) IndexOutOfBoundsException",
        "int signAt(int,int) IndexOutOfBoundsException NoSuchElementException",
        "int compose(int,int,int) IndexOutOfBoundsException NoSuchElementException"
            + " UnsupportedOperationException IllegalStateException",
        "int compare(int,int) IndexOutOfBoundsException",
        "int sum() IllegalStateException",
        "long add(int,int,int) IndexOutOfBoundsException IllegalArgumentException"
            + " UnsupportedOperationException ArithmeticException",
        "int terms(int) IndexOutOfBoundsException",
        "long amount(int,int) IndexOutOfBoundsException NoSuchElementException",
        "int termSign(int,int,int) IndexOutOfBoundsException NoSuchElementException",
        "int rule(int,int) IndexOutOfBoundsException UnsupportedOperationException"
            + " IllegalStateException",
        "int reduce(int) IndexOutOfBoundsException ArithmeticException",
        "boolean isNormal(int) IndexOutOfBoundsException",
        "long normals(int) IllegalArgumentException",
        "long duals(int) IllegalArgumentException",
        "boolean isConfluent() ArithmeticException",
        "boolean isInverse(int) IllegalArgumentException UnsupportedOperationException",
        "int shrub() UnsupportedOperationException IllegalStateException",
        "int knots(int) IndexOutOfBoundsException",
        "int symmetry(int) IndexOutOfBoundsException",
        "int density(int) IndexOutOfBoundsException",
        "int growths(int) IndexOutOfBoundsException",
        "int cuts(int,int) IndexOutOfBoundsException",
        "int grafts(int,int,int) IndexOutOfBoundsException",
        "int stages(int) IllegalArgumentException",
        "int step(int,int,int,int) IndexOutOfBoundsException IllegalArgumentException",
        "int last(int,int,int) IndexOutOfBoundsException IllegalArgumentException",
        "long weight(int,boolean) IndexOutOfBoundsException ArithmeticException",
        "int order()",
        "int word() UnsupportedOperationException IllegalStateException",
        "int factors(int) IndexOutOfBoundsException",
        "int factor(int,int) IndexOutOfBoundsException NoSuchElementException",
        "int bracketed(int,int) IndexOutOfBoundsException UnsupportedOperationException",
        "int shuffles(int,int,int) IndexOutOfBoundsException",
        "long lyndons(int,int) IllegalArgumentException",
        "long faces(int,int) IllegalArgumentException",
        "long checksum()",
        "float normalShare(int) IllegalArgumentException ArithmeticException",
        "double meanTerms() ArithmeticException",
        "boolean isSound()"};

    private FaceTests() {
    }

    public static void main(String[] args) {
        Check check = new Check();
        Class<?> face = Operadry.class;
        int kind = face.getModifiers();
        check.due("public and final", Modifier.isPublic(kind) && Modifier.isFinal(kind), true);
        check.due("no package", face.getPackageName().isEmpty(), true);
        constructors(check, face);
        methods(check, face);
        for (Field field : face.getDeclaredFields()) {
            check.due("private " + field.getName(), Modifier.isPrivate(field.getModifiers()), true);
        }
        for (Class<?> inner : face.getDeclaredClasses()) {
            boolean isHidden = !Modifier.isPublic(inner.getModifiers())
                    && !Modifier.isProtected(inner.getModifiers());
            check.due("static, not shown: " + inner.getName(),
                    isHidden && Modifier.isStatic(inner.getModifiers()), true);
        }
        check.end();
    }

    private static void constructors(Check check, Class<?> face) {
        Constructor<?>[] all = face.getDeclaredConstructors();
        check.due("constructors", all.length, 1);
        check.due("public constructor", Modifier.isPublic(all[0].getModifiers()), true);
        check.due("without parameters", all[0].getParameterCount(), 0);
        check.due("without exceptions", all[0].getExceptionTypes().length, 0);
    }

    private static void methods(Check check, Class<?> face) {
        TreeSet<String> due = new TreeSet<>(List.of(METHODS));
        TreeSet<String> names = new TreeSet<>();
        for (Method method : face.getDeclaredMethods()) {
            if (Modifier.isPublic(method.getModifiers())) {
                String told = tell(method);
                check.due("in the document: " + told, due.remove(told), true);
                check.due("not static: " + told, Modifier.isStatic(method.getModifiers()), false);
                names.add(method.getName());
            }
        }
        check.dueText("missing", due.toString(), "[]");
        for (Method method : face.getDeclaredMethods()) {
            if (!Modifier.isPublic(method.getModifiers())) {
                check.due("private, with a name of its own: " + method.getName(),
                        Modifier.isPrivate(method.getModifiers())
                                && !names.contains(method.getName()), true);
            }
        }
    }

    private static String tell(Method method) {
        List<String> taken = new ArrayList<>();
        for (Class<?> type : method.getParameterTypes()) {
            taken.add(type.getSimpleName());
        }
        StringBuilder told = new StringBuilder();
        told.append(method.getReturnType().getSimpleName()).append(' ').append(method.getName());
        told.append('(').append(String.join(",", taken)).append(')');
        for (Class<?> type : method.getExceptionTypes()) {
            told.append(' ').append(type.getSimpleName());
        }
        return told.toString();
    }
}
