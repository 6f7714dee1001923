import java.io.IOException;
import java.lang.reflect.InvocationTargetException;
import java.lang.reflect.Method;
import java.nio.file.Files;
import java.nio.file.Path;
import java.util.List;
import java.util.regex.Matcher;
import java.util.regex.Pattern;

/**
 * The example of README.md is run line by line: what stands behind a call is what it answers, and behind
 * 'throws' what it throws. Every call of the face is told of there.
 */
public final class ReadmeTest {
    private static final Path FILE = Path.of("README.md");
    private static final Pattern CALL = Pattern.compile("clock\\.(\\w+)\\(([^)]*)\\);\\s*// (.*)");

    private static int calls = 0;

    public static void main(String[] args) throws IOException {
        List<String> lines = Files.readAllLines(FILE);
        Checks.sentence("README.md: the example", () -> runExample(lines));
        Checks.sentence("README.md: the calls", () -> tellsOfAll(String.join("\n", lines)));
        Checks.finish();
    }

    private static void runExample(List<String> lines) {
        EvenClock clock = new EvenClock();
        boolean isExample = false;
        for (String line : lines) {
            if (line.startsWith("```")) {
                isExample = line.equals("```java");
            } else if (isExample && !line.isEmpty() && !line.equals("EvenClock clock = new EvenClock();")) {
                runLine(clock, line);
            }
        }
        Checks.due("there is an example", calls > 10, true);
    }

    private static void runLine(EvenClock clock, String line) {
        Matcher call = CALL.matcher(line);
        Checks.due("a call with words behind it: " + line, call.matches(), true);
        Method method = methodOf(call.group(1));
        String got = answer(clock, method, call.group(2).split(", *"));
        calls++;
        String told = call.group(3).replaceFirst(":.*", "");
        if (method.getReturnType() == void.class && !told.startsWith("throws ")) {
            Checks.same(line, got, "null");
        } else {
            Checks.same(line, got, told);
        }
    }

    private static Method methodOf(String name) {
        for (Method method : EvenClock.class.getMethods()) {
            if (method.getName().equals(name) && method.getDeclaringClass() == EvenClock.class) {
                return method;
            }
        }
        throw new IllegalStateException("no call " + name);
    }

    private static String answer(EvenClock clock, Method method, String[] words) {
        Class<?>[] types = method.getParameterTypes();
        Object[] values = new Object[types.length];
        for (int i = 0; i < types.length; i++) {
            values[i] = types[i] == int.class ? (Object) Integer.valueOf(words[i]) : Boolean.valueOf(words[i]);
        }
        try {
            return String.valueOf(method.invoke(clock, values));
        } catch (InvocationTargetException e) {
            return "throws " + e.getCause().getClass().getSimpleName();
        } catch (IllegalAccessException e) {
            throw new IllegalStateException(e);
        }
    }

    private static void tellsOfAll(String text) {
        for (Method method : EvenClock.class.getMethods()) {
            if (method.getDeclaringClass() == EvenClock.class) {
                Checks.due(method.getName(), text.contains("| `" + method.getName() + "("), true);
            }
        }
    }
}
