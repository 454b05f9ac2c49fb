import java.io.IOException;
import java.nio.file.Files;
import java.nio.file.Path;
import java.util.ArrayList;
import java.util.List;
import java.util.Map;
import java.util.TreeMap;
import java.util.regex.Matcher;
import java.util.regex.Pattern;
import java.util.stream.Collectors;
import java.util.stream.Stream;

/**
 * The words that the tests name stand in the document, and together they are all that it says under
 * 'What it is', 'Terms' and each promise: no sentence is without a test. (FaceTest looks at 'The public
 * face'.) It is run from the project's folder.
 */
public final class SentencesTest {
    private static final Path DOCUMENT = Path.of("../shared/DOC.md");
    private static final Path TESTS = Path.of("src/test/java");
    private static final Pattern SECTION = Pattern.compile("new Checks\\(\"([^\"]+)\"\\)");
    private static final Pattern SENTENCE =
            Pattern.compile("\\.sentence\\(\\s*((?:\"[^\"]*\"\\s*\\+?\\s*)+)\\)");

    public static void main(String[] args) throws IOException {
        if (!Files.exists(DOCUMENT)) {
            System.out.println("not looked at: there is no " + DOCUMENT);
            return;
        }
        Checks checks = new Checks();
        Map<String, String> sections = sections(Files.readString(DOCUMENT));
        checks.due("promises that the document has", sections.keySet().stream()
                .filter(title -> title.startsWith("Promise ")).count(), 18);
        Map<String, List<String>> named = namedWords();
        for (Map.Entry<String, List<String>> entry : named.entrySet()) {
            checks.due("the document has the section " + entry.getKey(), sections.containsKey(entry.getKey()), true);
        }
        for (Map.Entry<String, String> section : sections.entrySet()) {
            String title = section.getKey();
            look(checks, title, section.getValue(), named.get(title), mustBeTestedWhole(title));
        }
        checks.finish();
    }

    private static boolean mustBeTestedWhole(String title) {
        return title.equals("What it is") || title.equals("Terms") || title.startsWith("Promise ");
    }

    /** The sections of the document by their titles, without the signature that a promise begins with. */
    private static Map<String, String> sections(String document) {
        Map<String, String> sections = new TreeMap<>();
        for (String part : document.split("(?m)^## ")) {
            int end = part.indexOf('\n');
            if (end > 0) {
                String body = part.substring(end).trim().replaceFirst("^`[^`]*`:\\s*", "");
                sections.put(part.substring(0, end).trim(), body.replaceAll("\\s+", " "));
            }
        }
        return sections;
    }

    private static Map<String, List<String>> namedWords() throws IOException {
        List<Path> files;
        try (Stream<Path> all = Files.list(TESTS)) {
            files = all.filter(path -> path.toString().endsWith("Test.java")).sorted().collect(Collectors.toList());
        }
        Map<String, List<String>> named = new TreeMap<>();
        for (Path file : files) {
            String text = Files.readString(file);
            Matcher section = SECTION.matcher(text);
            if (section.find()) {
                List<String> words = named.computeIfAbsent(section.group(1), title -> new ArrayList<>());
                Matcher sentence = SENTENCE.matcher(text);
                while (sentence.find()) {
                    words.add(joined(sentence.group(1)));
                }
            }
        }
        return named;
    }

    private static String joined(String literals) {
        StringBuilder text = new StringBuilder();
        Matcher literal = Pattern.compile("\"([^\"]*)\"").matcher(literals);
        while (literal.find()) {
            text.append(literal.group(1));
        }
        return text.toString();
    }

    private static void look(Checks checks, String title, String body, List<String> words, boolean isWhole) {
        StringBuilder left = new StringBuilder(body);
        for (String some : words == null ? List.<String>of() : words) {
            checks.due(title + " has the words \"" + some + "\"", body.contains(some), true);
            for (int at = body.indexOf(some); at >= 0; at = body.indexOf(some, at + 1)) {
                left.replace(at, at + some.length(), " ".repeat(some.length()));
            }
        }
        String rest = left.toString().replaceAll("[^A-Za-z0-9]+", " ").trim();
        if (isWhole) {
            checks.due(title + " has words without a test: " + rest, rest.isEmpty(), true);
        }
    }
}
