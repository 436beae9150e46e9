import java.io.File;
import java.io.IOException;
import java.lang.reflect.InvocationTargetException;
import java.lang.reflect.Method;
import java.lang.reflect.Modifier;
import java.nio.file.Files;
import java.nio.file.Path;
import java.util.HashMap;
import java.util.List;
import java.util.Map;
import java.util.regex.Matcher;
import java.util.regex.Pattern;

/** README.md says how to use the class and how to run its tests: its calls are made, its answers are the due ones. */
public final class ReadmeTest {
    /** A line of the example: a call, perhaps with a name for its answer before it, or the answer behind it. */
    private static final Pattern CALL = Pattern.compile("(?:int (\\w+) = )?x\\.(\\w+)\\((.*)\\);(?:\\s+// (\\S+))?");
    private static final String NEW_OBJECT = "TwoWaySeats x = new TwoWaySeats();";

    private final Map<String, Integer> names = new HashMap<>();
    private TwoWaySeats x;
    private int answers;

    public static void main(String[] args) throws IOException {
        List<String> lines = Files.readAllLines(Path.of("README.md"));
        new ReadmeTest().example(lines);
        everyCallIsNamed(String.join("\n", lines));
        everyTestIsNamed(String.join("\n", lines));
        Check.end();
    }

    private void example(List<String> lines) {
        boolean inside = false;
        for (String line : lines) {
            if (line.startsWith("```")) {
                inside = line.equals("```java");
            } else if (inside && !line.isEmpty()) {
                exampleLine(line);
            }
        }
        Check.due("README.md shows answers", true, () -> answers > 0);
    }

    private void exampleLine(String line) {
        if (line.equals(NEW_OBJECT)) {
            x = new TwoWaySeats();
            return;
        }
        Matcher call = CALL.matcher(line);
        if (!call.matches()) {
            Check.compare(line, "a call", "something else");
            return;
        }
        String got = Check.answer(() -> callByName(call.group(2), call.group(3)));
        if (call.group(1) != null) {
            names.put(call.group(1), Integer.valueOf(got));
        } else if (call.group(4) != null) {
            answers++;
            Check.compare(line, call.group(4), got);
        } else {
            Check.compare(line, "null", got);
        }
    }

    private Object callByName(String name, String arguments) {
        for (Method method : TwoWaySeats.class.getMethods()) {
            if (method.getName().equals(name)) {
                try {
                    return method.invoke(x, values(arguments));
                } catch (InvocationTargetException e) {
                    throw (RuntimeException) e.getCause();
                } catch (IllegalAccessException e) {
                    throw new IllegalStateException(e);
                }
            }
        }
        throw new UnsupportedOperationException(name);
    }

    private Object[] values(String arguments) {
        if (arguments.isEmpty()) {
            return new Object[0];
        }
        String[] texts = arguments.split(", ");
        Object[] values = new Object[texts.length];
        for (int k = 0; k < texts.length; k++) {
            values[k] = value(texts[k]);
        }
        return values;
    }

    private Object value(String text) {
        if (text.equals("true") || text.equals("false")) {
            return Boolean.valueOf(text);
        }
        return names.containsKey(text) ? names.get(text) : Integer.valueOf(text);
    }

    private static void everyCallIsNamed(String readme) {
        for (Method method : TwoWaySeats.class.getDeclaredMethods()) {
            if (Modifier.isPublic(method.getModifiers())) {
                String start = "`" + method.getName() + "(";
                Check.due("README.md explains " + start, true, () -> readme.contains(start));
            }
        }
    }

    private static void everyTestIsNamed(String readme) {
        Check.due("README.md says how to run the tests", true, () -> readme.contains("```sh\n.ci/run\n```"));
        String[] files = new File("src/test/java").list();
        Check.due("there are tests", true, () -> files != null && files.length > 0);
        for (String file : files) {
            String name = "`" + file.replace(".java", "") + "`";
            Check.due("README.md names " + name, true, () -> readme.contains(name));
        }
    }
}
