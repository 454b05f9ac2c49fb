import java.io.IOException;
import java.lang.reflect.Method;
import java.lang.reflect.Modifier;
import java.nio.file.Files;
import java.nio.file.Path;
import java.util.Arrays;
import java.util.Set;
import java.util.TreeSet;
import java.util.regex.Matcher;
import java.util.regex.Pattern;

/**
 * What README.md tells of answers is what the class answers: its calls are made, one behind the other, and
 * each must answer what stands behind it. It is run from the project's folder.
 */
public final class ReadmeTest {
    private static final Path README = Path.of("README.md");
    private static final Path DOCUMENT = Path.of("../shared/DOC.md");
    private static final Path TESTS = Path.of("src/test/java");
    private static final Pattern BLOCK = Pattern.compile("(?s)```java\n(.*?)```");
    private static final Pattern CALL =
            Pattern.compile("bridge\\.(\\w+)\\(([^)]*)\\);\\s*// (-?\\d+|true|false)(:.*)?");
    private static final Pattern ROW =
            Pattern.compile("(?m)^\\| `(\\w+)\\(([^)]*)\\)` \\|.*\\| (`BAD`|`false`|- 2,000,000,000) \\|$");
    private static final Pattern RANGE = Pattern.compile("(- )?[\\d,]*\\d \\.\\. [\\d,]*\\d");
    private static final Pattern TEST = Pattern.compile("`(\\w+)Test`");

    private final Checks checks = new Checks();
    private final Set<String> shown = new TreeSet<>();

    public static void main(String[] args) throws IOException {
        String readme = Files.readString(README);
        ReadmeTest test = new ReadmeTest();
        test.calls(readme);
        test.rows(readme);
        test.ranges(readme);
        test.tests(readme);
        test.checks.due("it tells how the tests are run", readme.contains("\n.ci/run\n"), true);
        test.checks.finish();
    }

    private void calls(String readme) {
        Matcher block = BLOCK.matcher(readme);
        while (block.find()) {
            TendonLosses bridge = null;
            for (String line : block.group(1).split("\n")) {
                if (line.equals("TendonLosses bridge = new TendonLosses();")) {
                    bridge = new TendonLosses();
                } else if (!line.isBlank() && !line.startsWith("//")) {
                    call(bridge, line);
                }
            }
        }
        checks.due("calls that are shown: " + shown, shown.equals(methods()), true);
    }

    private void call(TendonLosses bridge, String line) {
        Matcher call = CALL.matcher(line);
        boolean isCall = bridge != null && call.matches();
        checks.due("a call and its answer: " + line, isCall, true);
        if (isCall) {
            String[] words = call.group(2).split(", ");
            int[] numbers = new int[words.length];
            for (int i = 0; i < words.length; i++) {
                numbers[i] = Integer.parseInt(words[i]);
            }
            checks.due(line, answer(bridge, call.group(1), numbers), number(call.group(3)));
            shown.add(call.group(1));
        }
    }

    private static long number(String word) {
        return word.equals("true") ? 1 : word.equals("false") ? 0 : Long.parseLong(word);
    }

    private static long answer(TendonLosses bridge, String name, int... numbers) {
        for (Method method : TendonLosses.class.getDeclaredMethods()) {
            if (isPublic(method) && method.getName().equals(name) && method.getParameterCount() == numbers.length) {
                return number(answerOf(bridge, method, numbers));
            }
        }
        throw new IllegalArgumentException("no method " + name + " with " + numbers.length + " numbers");
    }

    private static String answerOf(TendonLosses bridge, Method method, int[] numbers) {
        Object[] arguments = new Object[numbers.length];
        for (int i = 0; i < numbers.length; i++) {
            arguments[i] = numbers[i];
        }
        try {
            return method.invoke(bridge, arguments).toString();
        } catch (ReflectiveOperationException e) {
            throw new IllegalStateException(method.getName(), e);
        }
    }

    private static boolean isPublic(Method method) {
        return Modifier.isPublic(method.getModifiers());
    }

    private static Set<String> methods() {
        Set<String> names = new TreeSet<>();
        for (Method method : TendonLosses.class.getDeclaredMethods()) {
            if (isPublic(method)) {
                names.add(method.getName());
            }
        }
        return names;
    }

    /** The table has a row for every method, with the answer to wrong arguments in its last column. */
    private void rows(String readme) {
        Set<String> named = new TreeSet<>();
        Matcher row = ROW.matcher(readme);
        while (row.find()) {
            int[] wrong = new int[row.group(2).split(", ").length];
            Arrays.fill(wrong, Bridges.LEAST_INT);
            String word = row.group(3);
            long due = word.equals("`BAD`") ? TendonLosses.BAD : word.equals("`false`") ? 0 : Bridges.NONE;
            checks.due(row.group(), answer(Bridges.mixed(), row.group(1), wrong), due);
            named.add(row.group(1));
        }
        checks.due("rows of the table: " + named, named.equals(methods()), true);
    }

    private void ranges(String readme) throws IOException {
        String document = Files.exists(DOCUMENT) ? Files.readString(DOCUMENT) : readme;
        Matcher range = RANGE.matcher(readme);
        while (range.find()) {
            checks.due("the document has " + range.group(), document.contains(range.group()), true);
        }
    }

    private void tests(String readme) {
        Matcher test = TEST.matcher(readme);
        while (test.find()) {
            Path file = TESTS.resolve(test.group(1) + "Test.java");
            boolean isOne = test.group(1).endsWith("xxx") || Files.exists(file);
            checks.due("there is " + test.group(), isOne, true);
        }
    }
}
