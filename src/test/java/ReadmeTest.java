import java.io.IOException;
import java.lang.reflect.Field;
import java.lang.reflect.Method;
import java.lang.reflect.Modifier;
import java.nio.charset.StandardCharsets;
import java.nio.file.DirectoryStream;
import java.nio.file.Files;
import java.nio.file.Path;
import java.util.HashMap;
import java.util.Map;
import java.util.Set;
import java.util.TreeSet;
import java.util.regex.Matcher;
import java.util.regex.Pattern;

/** What README.md says holds: its example is run as it is written, its table and its list are whole. */
public final class ReadmeTest {
    private static final String MAKING = "RecordLabels x = new RecordLabels();";
    private static final Pattern CALL =
        Pattern.compile("(?:int (\\w+) = )?x\\.((\\w+)\\(([^)]*)\\)); +// (-?\\w+): .*");
    private static final Pattern ROW = Pattern.compile("\\| `(\\w+)\\(([^)]*)\\)` \\| [^|]+ \\|[^|]*\\|");

    private static final Due due = new Due();

    public static void main(String[] args) throws Exception {
        String readme = Files.readString(Path.of("README.md"), StandardCharsets.UTF_8);
        Map<String, Method> calls = publicCalls();
        example(readme, calls);
        tableOfCalls(readme, calls);
        listOfTests(readme);
        due.end();
    }

    private static Map<String, Method> publicCalls() {
        Map<String, Method> calls = new HashMap<>();
        for (Method method : RecordLabels.class.getDeclaredMethods()) {
            if (Modifier.isPublic(method.getModifiers())) {
                calls.put(method.getName(), method);
            }
        }
        return calls;
    }

    private static void example(String readme, Map<String, Method> calls) throws Exception {
        due.sentence("the example of README.md");
        RecordLabels x = new RecordLabels();
        Map<String, Long> numbers = namedNumbers();
        Set<String> seen = new TreeSet<>();
        for (String line : linesOfExample(readme)) {
            if (line.isEmpty() || line.equals(MAKING)) {
                continue;
            }
            Matcher parts = CALL.matcher(line);
            boolean readable = parts.matches() && calls.containsKey(parts.group(3));
            due.holds("this is a call with its answer: " + line, readable);
            if (!readable) {
                continue;
            }
            long answer = asked(x, calls.get(parts.group(3)), parts.group(4), numbers);
            due.is(parts.group(2), answer, number(parts.group(5), numbers));
            seen.add(parts.group(3));
            if (parts.group(1) != null) {
                numbers.put(parts.group(1), answer);
            }
        }
        due.holds("every call is in the example: " + seen, seen.equals(calls.keySet()));
    }

    private static String[] linesOfExample(String readme) {
        String begin = "```java\n";
        int from = readme.indexOf(begin);
        int to = readme.indexOf("```", from + begin.length());
        return from < 0 || to < 0 ? new String[0] : readme.substring(from + begin.length(), to).split("\n");
    }

    private static Map<String, Long> namedNumbers() throws IllegalAccessException {
        Map<String, Long> numbers = new HashMap<>();
        for (Field field : RecordLabels.class.getFields()) {
            numbers.put(field.getName(), (long) field.getInt(null));
        }
        numbers.put("false", 0L);
        numbers.put("true", 1L);
        return numbers;
    }

    private static long number(String text, Map<String, Long> numbers) {
        return numbers.containsKey(text) ? numbers.get(text) : Long.decode(text.replaceAll("L$", ""));
    }

    private static long asked(RecordLabels x, Method call, String list, Map<String, Long> numbers) throws Exception {
        String[] texts = list.isEmpty() ? new String[0] : list.split(", ");
        Object[] values = new Object[texts.length];
        for (int i = 0; i < texts.length; i++) {
            values[i] = asType(call.getParameterTypes()[i], number(texts[i], numbers));
        }
        return ((Number) call.invoke(x, values)).longValue();
    }

    private static Object asType(Class<?> type, long value) {
        if (type == boolean.class) {
            return value == 1;
        }
        return type == int.class ? (Object) Math.toIntExact(value) : (Object) value;
    }

    private static void tableOfCalls(String readme, Map<String, Method> calls) {
        due.sentence("the table of calls of README.md");
        Set<String> seen = new TreeSet<>();
        Matcher row = ROW.matcher(readme);
        while (row.find()) {
            Method call = calls.get(row.group(1));
            due.holds(row.group(1) + " is a call, with one row", call != null && seen.add(row.group(1)));
            int parameters = row.group(2).isEmpty() ? 0 : row.group(2).split(", ").length;
            due.is("the parameters of " + row.group(1), parameters, call == null ? -1 : call.getParameterCount());
        }
        due.holds("every call has a row: " + seen, seen.equals(calls.keySet()));
    }

    private static void listOfTests(String readme) throws IOException {
        due.sentence("the list of tests of README.md");
        Set<String> there = new TreeSet<>();
        try (DirectoryStream<Path> files = Files.newDirectoryStream(Path.of("src/test/java"), "*Test.java")) {
            for (Path file : files) {
                there.add(file.getFileName().toString().replace(".java", ""));
            }
        }
        Set<String> told = new TreeSet<>();
        Matcher name = Pattern.compile("`(\\w+Test)`").matcher(readme);
        while (name.find()) {
            told.add(name.group(1));
        }
        due.holds("it names the tests that there are, " + there + ", not " + told, told.equals(there));
    }
}
