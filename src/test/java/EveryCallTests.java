import java.lang.reflect.InvocationTargetException;
import java.lang.reflect.Method;
import java.lang.reflect.Modifier;
import java.util.ArrayList;
import java.util.Comparator;
import java.util.List;

/** Calls with numbers from everywhere: what is thrown is declared, and thrown by the call itself. */
public final class EveryCallTests {
    private static final int[] NUMBERS = {0, 1, 2, 3, 0, 1, 9, 2, 5, 8, -1, 4, 10, 11, 12, 13, 40,
        99, 100, -99, -100, Integer.MIN_VALUE, Integer.MAX_VALUE, Integer.MIN_VALUE + 1};
    private static final int RUNS = 80;
    private static final int CALLS = 300;

    private final Check check = new Check();
    private long seed = 20261119;

    private EveryCallTests() {
    }

    public static void main(String[] args) throws IllegalAccessException {
        EveryCallTests tests = new EveryCallTests();
        List<Method> methods = new ArrayList<>();
        for (Method method : Operadry.class.getDeclaredMethods()) {
            if (Modifier.isPublic(method.getModifiers())) {
                methods.add(method);
            }
        }
        methods.sort(Comparator.comparing(Method::getName));
        for (int run = 0; run < RUNS; run++) {
            tests.run(methods, run % 4);
        }
        tests.check.end();
    }

    private int next(int many) {
        seed = seed * 6364136223846793005L + 1442695040888963407L;
        return (int) ((seed >>> 33) % many);
    }

    private void run(List<Method> methods, int kind) throws IllegalAccessException {
        Operadry x = new Operadry();
        if (kind > 0) {
            x.operation(2);
            x.operation(kind == 1 ? 2 : 3);
            x.operation(2);
            Check.tree(x, "20999");
            Check.tree(x, "09099");
            Check.sum(x, "3 09099", "-1 00999");
            x.rule(0, 0);
            Check.tree(x, "9");
            Check.tree(x, "22220999999");
        }
        if (kind > 1) {
            Check.shrub(x, "00123456");
            Check.shrub(x, "001");
            Check.shrub(x, "0");
            Check.word(x, "0012");
            Check.word(x, "1");
            Check.word(x, "0");
        }
        for (int i = 0; i < CALLS; i++) {
            Method method = methods.get(next(methods.size()));
            Object[] given = new Object[method.getParameterCount()];
            for (int j = 0; j < given.length; j++) {
                int number = NUMBERS[next(next(2) == 0 ? 8 : NUMBERS.length)];
                given[j] = method.getParameterTypes()[j] == int.class ? (Object) number
                        : (Object) (number > 0);
            }
            call(x, method, given);
        }
        check.due("44: sound", x.isSound(), true);
    }

    private void call(Operadry x, Method method, Object[] given) throws IllegalAccessException {
        try {
            method.invoke(x, given);
        } catch (InvocationTargetException e) {
            Throwable thrown = e.getCause();
            boolean isDeclared = false;
            for (Class<?> type : method.getExceptionTypes()) {
                isDeclared = isDeclared || type == thrown.getClass();
            }
            check.due(method.getName() + " declares " + thrown, isDeclared, true);
            StackTraceElement from = thrown.getStackTrace()[0];
            check.dueText("where " + method.getName() + " throws", from.getMethodName(),
                    method.getName());
        }
    }
}
