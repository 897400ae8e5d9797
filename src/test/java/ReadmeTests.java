import java.io.IOException;
import java.lang.reflect.InvocationTargetException;
import java.lang.reflect.Method;
import java.lang.reflect.Modifier;
import java.nio.file.Files;
import java.nio.file.Path;
import java.util.HashMap;
import java.util.Map;
import java.util.TreeSet;
import java.util.regex.Matcher;
import java.util.regex.Pattern;

/** The calls that README.md shows: each is run, and answers what stands behind it there. */
public final class ReadmeTests {
    private static final String NEW_OBJECT = "Operadry x = new Operadry()";
    private static final Pattern CALL =
            Pattern.compile("(?:(\\w+) (\\w+) = )?x\\.(\\w+)\\((.*)\\)");

    private final Check check = new Check();
    private final Map<String, Method> face = new HashMap<>();
    private final TreeSet<String> notShown = new TreeSet<>();
    private final Map<String, Object> names = new HashMap<>();
    private Operadry x;

    private ReadmeTests() {
        for (Method method : Operadry.class.getDeclaredMethods()) {
            if (Modifier.isPublic(method.getModifiers())) {
                face.put(method.getName(), method);
                notShown.add(method.getName());
            }
        }
    }

    public static void main(String[] args) throws IOException {
        ReadmeTests tests = new ReadmeTests();
        boolean isCode = false;
        for (String line : Files.readAllLines(Path.of("README.md"))) {
            if (line.startsWith("```")) {
                isCode = line.equals("```java");
            } else if (isCode) {
                tests.runLine(line);
            }
        }
        tests.check.dueText("calls that README.md does not show", tests.notShown.toString(), "[]");
        tests.check.end();
    }

    /** Calls, and the answer of the last one, which goes up to a colon or the end of the line. */
    private void runLine(String line) {
        String[] both = line.split("//");
        String answer = "";
        for (String statement : both[0].trim().split("; *")) {
            answer = run(line, statement);
        }
        if (both.length > 1) {
            check.dueText(line, answer, both[1].split("[:,]")[0].trim());
        }
    }

    private String run(String line, String statement) {
        if (statement.equals(NEW_OBJECT)) {
            x = new Operadry();
            names.clear();
            return "";
        }
        Matcher call = CALL.matcher(statement);
        if (!call.matches()) {
            return "what is no call: " + statement;
        }
        Method method = face.get(call.group(3));
        if (method == null) {
            return "what has no name in the face: " + statement;
        }
        notShown.remove(method.getName());
        try {
            Object answer = method.invoke(x, given(line, call.group(4)));
            if (call.group(1) != null) {
                check.dueText("type in " + line, call.group(1), method.getReturnType().getName());
                names.put(call.group(2), answer);
            }
            return answer.toString();
        } catch (InvocationTargetException e) {
            return e.getCause().getClass().getSimpleName();
        } catch (ReflectiveOperationException | IllegalArgumentException e) {
            return e.toString();
        }
    }

    /** Numbers, true and false, names of answers, and calls, with a comma between them. */
    private Object[] given(String line, String text) {
        if (text.isEmpty()) {
            return new Object[0];
        }
        String[] parts = text.split(", (?![^()]*\\))");
        Object[] given = new Object[parts.length];
        for (int i = 0; i < parts.length; i++) {
            if (names.containsKey(parts[i])) {
                given[i] = names.get(parts[i]);
            } else if (parts[i].equals("true") || parts[i].equals("false")) {
                given[i] = parts[i].equals("true");
            } else if (CALL.matcher(parts[i]).matches()) {
                given[i] = Integer.valueOf(run(line, parts[i]));
            } else {
                given[i] = Integer.valueOf(parts[i]);
            }
        }
        return given;
    }
}
