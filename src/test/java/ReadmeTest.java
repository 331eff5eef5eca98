import java.io.IOException;
import java.lang.reflect.InvocationTargetException;
import java.lang.reflect.Method;
import java.nio.file.DirectoryStream;
import java.nio.file.Files;
import java.nio.file.Path;
import java.util.HashMap;
import java.util.Map;
import java.util.Set;
import java.util.TreeSet;
import java.util.regex.Matcher;
import java.util.regex.Pattern;

/** What README.md tells: its lines of Java answer as it says, every call is shown, every test is named. */
public final class ReadmeTest extends Due {
    private static final String NEW_OBJECT = "VehicleChecks checks = new VehicleChecks();";
    private static final Pattern CALL =
        Pattern.compile("(?:int (\\w+) = )?checks\\.(\\w+)\\(([^()]*)\\);\\s*// (?:(= |throws )(-?\\w+))?.*");

    private static final Map<String, Method> FACE = new HashMap<>();
    private static final Map<String, Integer> NAMED = new HashMap<>();
    private static final Set<String> SHOWN = new TreeSet<>();

    public static void main(String[] args) throws IOException {
        String text = Files.readString(Path.of("README.md"));
        for (Method m : VehicleChecks.class.getMethods()) {
            if (m.getDeclaringClass() == VehicleChecks.class) {
                FACE.put(m.getName(), m);
            }
        }
        runTheLines(text);
        compare(new TreeSet<>(FACE.keySet()).toString(), SHOWN.toString());
        everyTestIsNamed(text);
        end();
    }

    private static void runTheLines(String text) {
        VehicleChecks checks = null;
        Matcher block = Pattern.compile("(?s)```java\n(.*?)```").matcher(text);
        while (block.find()) {
            for (String line : block.group(1).split("\n")) {
                if (line.equals(NEW_OBJECT)) {
                    checks = new VehicleChecks();
                } else {
                    runOne(checks, line);
                }
            }
        }
    }

    private static void runOne(VehicleChecks checks, String line) {
        Matcher call = CALL.matcher(line);
        if (checks == null || !call.matches() || !FACE.containsKey(call.group(2))) {
            compare("a call of the face, and a comment", line);
            return;
        }
        SHOWN.add(call.group(2));
        String got = outcomeOf(checks, FACE.get(call.group(2)), call.group(3));
        String want = call.group(5) == null ? "null" : call.group(5);
        compare(line + " " + want, line + " " + got);
        if (call.group(1) != null && got.matches("-?\\d+")) {
            NAMED.put(call.group(1), Integer.parseInt(got));
        }
    }

    /** The answer as text; "null" of a call without one, and the bare name of what it throws. */
    private static String outcomeOf(VehicleChecks checks, Method m, String arguments) {
        String[] words = arguments.split(", ");
        Object[] values = new Object[words.length];
        for (int i = 0; i < words.length; i++) {
            values[i] = valueOf(words[i]);
        }
        try {
            return String.valueOf(m.invoke(checks, values));
        } catch (InvocationTargetException e) {
            return e.getCause().getClass().getSimpleName();
        } catch (IllegalAccessException | IllegalArgumentException e) {
            return "no call: " + e;
        }
    }

    private static Object valueOf(String word) {
        if (word.equals("true") || word.equals("false")) {
            return word.equals("true");
        }
        return NAMED.containsKey(word) ? NAMED.get(word) : (Object) Integer.decode(word.replace("_", ""));
    }

    private static void everyTestIsNamed(String text) throws IOException {
        Set<String> due = new TreeSet<>();
        try (DirectoryStream<Path> files = Files.newDirectoryStream(Path.of("src/test/java"), "*Test.java")) {
            for (Path file : files) {
                due.add(file.getFileName().toString().replace(".java", ""));
            }
        }
        Set<String> named = new TreeSet<>();
        Matcher row = Pattern.compile("(?m)^\\| `(\\w+Test)` \\|").matcher(text);
        while (row.find()) {
            named.add(row.group(1));
        }
        compare(due.toString(), named.toString());
    }
}
