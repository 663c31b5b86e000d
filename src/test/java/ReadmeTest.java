import java.io.IOException;
import java.lang.reflect.Field;
import java.lang.reflect.Method;
import java.lang.reflect.Modifier;
import java.nio.file.Files;
import java.nio.file.Path;
import java.util.HashMap;
import java.util.Map;
import java.util.regex.Matcher;
import java.util.regex.Pattern;

/** README.md: each call and constant is named there, and its example answers what stands beside it. */
public final class ReadmeTest {
    private static final Pattern ROW = Pattern.compile("(?m)^\\| `(\\w+)\\(([^)]*)\\)` \\|[^|]+\\|[^|]+\\|$");
    private static final Pattern BLOCK = Pattern.compile("(?s)```java\n(.*?)```");
    private static final String MADE = "CommonsTurns commons = new CommonsTurns();";
    private static final Pattern CALL =
        Pattern.compile("(?:int (\\w+) = )?commons\\.(\\w+)\\(([^)]*)\\); *// (-?\\d+)(?::.*)?");
    private static final Checks checks = new Checks();

    public static void main(String[] args) throws IOException, ReflectiveOperationException {
        String page = Files.readString(Path.of("README.md"));
        calls(page);
        constants(page);
        examples(page);
        tests(page);
        checks.end();
    }

    private static void calls(String page) {
        checks.under("README.md, the calls");
        Map<String, Integer> rows = new HashMap<>();
        Matcher row = ROW.matcher(page);
        while (row.find()) {
            checks.holds(row.group(1) + " has two rows", rows.put(row.group(1), values(row.group(2)).length) == null);
        }
        int methods = 0;
        for (Method method : CommonsTurns.class.getDeclaredMethods()) {
            if (Modifier.isPublic(method.getModifiers())) {
                methods++;
                Integer parameters = rows.get(method.getName());
                checks.holds(method.getName() + " has no row, or not its parameters",
                    parameters != null && parameters == method.getParameterCount());
            }
        }
        checks.due("rows of calls", rows.size(), methods);
    }

    private static void constants(String page) throws IllegalAccessException {
        checks.under("README.md, the constants");
        for (Field field : CommonsTurns.class.getFields()) {
            String row = "\n| `" + field.getName() + "` | " + field.getInt(null) + " | ";
            checks.holds(field.getName() + " has no row with its value", page.contains(row));
        }
        checks.under("README.md, the calls of an object");
        checks.holds("512 is not named", page.contains("at most 512 calls"));
    }

    private static void examples(String page) throws ReflectiveOperationException {
        checks.under("README.md, the example");
        int asked = 0;
        Matcher block = BLOCK.matcher(page);
        while (block.find()) {
            asked += example(block.group(1).split("\n"));
        }
        checks.holds("there is no example", asked > 0);
    }

    /** Does the lines of an example; returns how many calls it has. */
    private static int example(String[] lines) throws ReflectiveOperationException {
        Noted commons = new Noted();
        Map<String, Integer> named = new HashMap<>();
        int asked = 0;
        for (String line : lines) {
            Matcher call = CALL.matcher(line);
            if (!call.matches()) {
                checks.holds("a line that is no call: " + line, line.equals(MADE));
                continue;
            }
            int answer = ask(commons, call.group(2), values(call.group(3)), named);
            checks.due(line, answer, Integer.parseInt(call.group(4)));
            if (call.group(1) != null) {
                named.put(call.group(1), answer);
            }
            asked++;
        }
        return asked;
    }

    private static int ask(Noted commons, String name, String[] values, Map<String, Integer> named)
            throws ReflectiveOperationException {
        Class<?>[] types = new Class<?>[values.length];
        Object[] numbers = new Object[values.length];
        for (int k = 0; k < values.length; k++) {
            types[k] = int.class;
            numbers[k] = number(values[k], named);
        }
        return (int) Noted.class.getDeclaredMethod(name, types).invoke(commons, numbers);
    }

    private static Integer number(String value, Map<String, Integer> named) {
        if (value.startsWith("'")) {
            return (int) value.charAt(1);
        }
        return named.containsKey(value) ? named.get(value) : Integer.valueOf(value);
    }

    private static String[] values(String list) {
        return list.isEmpty() ? new String[0] : list.split(", *");
    }

    private static void tests(String page) throws IOException {
        checks.under("README.md, the tests");
        checks.holds(".ci/run is not named", page.contains("\n    .ci/run\n"));
        try (var files = Files.list(Path.of("src/test/java"))) {
            for (Path file : (Iterable<Path>) files::iterator) {
                String name = file.getFileName().toString().replace(".java", "");
                checks.holds(name + " is not named", page.contains("`" + name + "`"));
            }
        }
    }
}
