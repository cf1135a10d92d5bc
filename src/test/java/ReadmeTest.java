import java.io.IOException;
import java.lang.reflect.InvocationTargetException;
import java.lang.reflect.Method;
import java.lang.reflect.Modifier;
import java.nio.file.Files;
import java.nio.file.Path;
import java.util.Set;
import java.util.TreeSet;
import java.util.regex.Matcher;
import java.util.regex.Pattern;

/**
 * Runs the calls of each java example in README.md, as they stand there, and compares the
 * answers with those that README.md tells behind them: "// answer", or "// answer: words".
 */
public final class ReadmeTest {
    private static final String NEW_OBJECT = "ScanForge x = new ScanForge();";
    private static final Pattern CALL = Pattern.compile("x\\.(\\w+)\\(([^()]*)\\);(?:\\s+// ([^:]+)(?:: .*)?)?");

    private final Check check = new Check();
    private final Set<String> shown = new TreeSet<>();
    private ScanForge x;
    private int answers;

    public static void main(String[] args) throws IOException {
        ReadmeTest test = new ReadmeTest();
        test.runExamples(Files.readString(Path.of("README.md")));
        test.allOfTheFaceIsShown();
        test.check.same("some answers are told", test.answers > 0, true);
        test.check.end("ReadmeTest");
    }

    private void runExamples(String readme) {
        boolean isExample = false;
        int at = 0;
        for (String line : readme.split("\\R", -1)) {
            at++;
            if (line.startsWith("```")) {
                isExample = line.equals("```java");
                // An example stands for itself: it may not use the object of the one before.
                x = null;
            } else if (isExample && !line.isBlank() && !line.startsWith("//")) {
                runLine("README.md line " + at + ": " + line, line);
            }
        }
        check.same("the last example is closed", isExample, false);
    }

    private void runLine(String where, String line) {
        if (line.equals(NEW_OBJECT)) {
            x = new ScanForge();
            return;
        }
        Matcher call = CALL.matcher(line);
        if (!call.matches() || x == null) {
            check.tell(where + " is no call of an object x that the example made");
            return;
        }
        shown.add(call.group(1));
        String got = answer(call.group(1), call.group(2));
        String due = call.group(3);
        if (due != null) {
            answers++;
        }
        if (due == null ? got.startsWith("throws ") : !got.equals(due)) {
            check.tell(where + " -- answered " + got);
        }
    }

    private String answer(String name, String arguments) {
        Method method = methodOfTheFace(name);
        String[] texts = arguments.isEmpty() ? new String[0] : arguments.split(", ");
        if (method == null || method.getParameterCount() != texts.length) {
            return "nothing: there is no such call";
        }
        Object[] values = new Object[texts.length];
        for (int i = 0; i < texts.length; i++) {
            values[i] = value(method.getParameterTypes()[i], texts[i]);
        }
        try {
            return String.valueOf(method.invoke(x, values));
        } catch (InvocationTargetException e) {
            return "throws " + e.getCause().getClass().getSimpleName();
        } catch (IllegalAccessException e) {
            return "nothing: " + e;
        }
    }

    private static Object value(Class<?> type, String text) {
        if (type == int.class) {
            return Integer.valueOf(text);
        }
        if (type == double.class) {
            return Double.valueOf(text);
        }
        if (!text.equals("true") && !text.equals("false")) {
            throw new IllegalArgumentException("neither true nor false: " + text);
        }
        return Boolean.valueOf(text);
    }

    private static Method methodOfTheFace(String name) {
        for (Method m : ScanForge.class.getDeclaredMethods()) {
            if (Modifier.isPublic(m.getModifiers()) && m.getName().equals(name)) {
                return m;
            }
        }
        return null;
    }

    private void allOfTheFaceIsShown() {
        for (Method m : ScanForge.class.getDeclaredMethods()) {
            if (Modifier.isPublic(m.getModifiers())) {
                check.same("README.md shows " + m.getName(), shown.contains(m.getName()), true);
            }
        }
    }
}
