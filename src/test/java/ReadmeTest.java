import java.io.IOException;
import java.lang.reflect.InvocationTargetException;
import java.lang.reflect.Method;
import java.lang.reflect.Modifier;
import java.nio.charset.StandardCharsets;
import java.nio.file.Files;
import java.nio.file.Path;
import java.util.ArrayList;
import java.util.List;
import java.util.TreeSet;
import java.util.regex.Matcher;
import java.util.regex.Pattern;

/** README.md tells the truth: its example is run call by call, its table of refusals is the face's. */
public final class ReadmeTest {
    private static final String NEW_OBJECT = "SceneTimes x = new SceneTimes();";
    private static final String NO_ANSWER = "no answer";
    private static final Pattern CALL = Pattern.compile("x\\.(\\w+)\\((.*)\\); +// ([^:]+)(?:: (.*))?");
    private static final Pattern REFUSAL_ROW = Pattern.compile("\\| `(\\w+)` \\|([^|]*)\\|([^|]*)\\|([^|]*)\\|([^|]*)\\|");
    private static final String[] COLUMNS = {
        "IllegalArgumentException", "IndexOutOfBoundsException", "IllegalStateException",
        "UnsupportedOperationException"
    };

    public static void main(String[] args) throws IOException {
        List<String> readme = Files.readAllLines(Path.of("README.md"), StandardCharsets.UTF_8);
        example(between(readme, "```java", "```"));
        refusals(between(readme, "## Refusals", "## How it is held"));
        Check.end();
    }

    private static List<String> between(List<String> lines, String first, String last) {
        int from = lines.indexOf(first);
        List<String> found = new ArrayList<>();
        for (int i = from + 1; from >= 0 && i < lines.size() && !lines.get(i).equals(last); i++) {
            found.add(lines.get(i));
        }
        return found;
    }

    private static void example(List<String> lines) {
        TreeSet<String> used = new TreeSet<>();
        Check.same("the example begins", lines.isEmpty() ? "with nothing" : lines.get(0), NEW_OBJECT);
        SceneTimes x = new SceneTimes();
        for (int i = 1; i < lines.size(); i++) {
            Matcher line = CALL.matcher(lines.get(i));
            Check.same("a call with its answer: " + lines.get(i), line.matches() ? 1 : 0, 1);
            if (line.matches()) {
                used.add(line.group(1));
                answerIsSo(x, lines.get(i), line);
            }
        }
        Check.same("the calls in the example", used.toString(), namesOfFace().toString());
    }

    private static void answerIsSo(SceneTimes x, String shown, Matcher line) {
        String name = line.group(1);
        Check.same(shown, answerOf(x, name, line.group(2)), line.group(3));
        if (name.equals("print")) {
            Check.same(shown, latestSheet(x), String.valueOf(line.group(4)));
        }
    }

    private static String answerOf(SceneTimes x, String name, String listed) {
        String[] given = listed.isEmpty() ? new String[0] : listed.split(", ");
        Method method = methodOf(name);
        if (method == null || method.getParameterCount() != given.length) {
            return "no such call";
        }
        Object[] arguments = new Object[given.length];
        for (int i = 0; i < given.length; i++) {
            arguments[i] = argumentOf(given[i]);
        }
        try {
            Object answer = method.invoke(x, arguments);
            return method.getReturnType() == void.class ? NO_ANSWER : String.valueOf(answer);
        } catch (InvocationTargetException e) {
            return e.getCause().getClass().getSimpleName();
        } catch (IllegalAccessException | IllegalArgumentException e) {
            return "no such call";
        }
    }

    private static Object argumentOf(String text) {
        if (text.equals("true") || text.equals("false")) {
            return Boolean.valueOf(text);
        }
        return Integer.valueOf(text);
    }

    private static String latestSheet(SceneTimes x) {
        StringBuilder text = new StringBuilder();
        for (int i = 0; x.at(i) >= 0; i++) {
            text.append((char) x.at(i));
        }
        return text.toString();
    }

    private static void refusals(List<String> lines) {
        TreeSet<String> told = new TreeSet<>();
        String head = "| Call | `" + String.join("` | `", COLUMNS) + "` |";
        Check.same("the table's head is there", lines.contains(head) ? 1 : 0, 1);
        for (String shown : lines) {
            Matcher row = REFUSAL_ROW.matcher(shown);
            if (row.matches()) {
                told.add(row.group(1));
                Check.same("the refusals of " + row.group(1), toldIn(row), declaredBy(row.group(1)));
            }
        }
        Check.same("the calls in the table", told.toString(), namesOfFace().toString());
    }

    private static String toldIn(Matcher row) {
        List<String> told = new ArrayList<>();
        for (int i = 0; i < COLUMNS.length; i++) {
            if (!row.group(i + 2).isBlank()) {
                told.add(COLUMNS[i]);
            }
        }
        return told.toString();
    }

    private static String declaredBy(String name) {
        Method method = methodOf(name);
        if (method == null) {
            return "no such call";
        }
        List<String> names = new ArrayList<>();
        for (Class<?> each : method.getExceptionTypes()) {
            names.add(each.getSimpleName());
        }
        return names.toString();
    }

    private static Method methodOf(String name) {
        for (Method each : SceneTimes.class.getDeclaredMethods()) {
            if (each.getName().equals(name) && Modifier.isPublic(each.getModifiers())) {
                return each;
            }
        }
        return null;
    }

    private static TreeSet<String> namesOfFace() {
        TreeSet<String> names = new TreeSet<>();
        for (Method each : SceneTimes.class.getDeclaredMethods()) {
            if (Modifier.isPublic(each.getModifiers())) {
                names.add(each.getName());
            }
        }
        return names;
    }
}
