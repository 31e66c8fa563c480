import java.io.IOException;
import java.lang.reflect.InvocationTargetException;
import java.lang.reflect.Method;
import java.nio.file.Files;
import java.nio.file.Path;
import java.util.regex.Matcher;
import java.util.regex.Pattern;

/** The example of README.md, taken line by line as it stands there: what its remarks say is so. */
final class ReadmeTest {
    private static final Pattern CALL =
            Pattern.compile("x\\.(\\w+)\\(([^)]*)\\);(?:\\s*// (?:(answers|throws) ([\\w.]*\\w))?.*)?");
    private static final String MADE = "GraphRunner x = new GraphRunner();";

    public static void main(String[] args) throws IOException, IllegalAccessException {
        GraphRunner x = null;
        boolean inExample = false;
        int calls = 0;
        for (String line : Files.readAllLines(Path.of("README.md"))) {
            if (line.startsWith("```")) {
                inExample = line.equals("```java");
            } else if (inExample && line.equals(MADE)) {
                x = new GraphRunner();
            } else if (inExample && !line.isBlank()) {
                Matcher call = CALL.matcher(line);
                Expect.look(line, x != null && call.matches(), "something else", "a call");
                take(line, x, call);
                calls++;
            }
        }
        Expect.look("the example", calls >= 10, calls + " calls", "10 or more");
        Expect.end();
    }

    private static void take(String line, GraphRunner x, Matcher call) throws IllegalAccessException {
        Method method = method(call.group(1));
        String due = call.group(3) == null ? "nothing said" : call.group(3) + " " + call.group(4);
        String got = outcome(x, method, call.group(2).isEmpty() ? new String[0] : call.group(2).split(", "));
        boolean saidNothing = call.group(3) == null && !got.startsWith("throws");
        Expect.look(line, saidNothing || got.equals(due), got, due);
    }

    private static Method method(String name) {
        for (Method method : GraphRunner.class.getMethods()) {
            if (method.getName().equals(name)) {
                return method;
            }
        }
        throw new IllegalArgumentException(name);
    }

    private static String outcome(GraphRunner x, Method method, String[] written) throws IllegalAccessException {
        Object[] arguments = new Object[written.length];
        for (int k = 0; k < written.length; k++) {
            Class<?> type = method.getParameterTypes()[k];
            if (type == int.class) {
                arguments[k] = Integer.valueOf(written[k]);
            } else if (type == double.class) {
                arguments[k] = Double.valueOf(written[k]);
            } else {
                arguments[k] = Boolean.valueOf(written[k]);
            }
        }
        try {
            return "answers " + method.invoke(x, arguments);
        } catch (InvocationTargetException e) {
            return "throws " + e.getCause().getClass().getSimpleName();
        }
    }
}
