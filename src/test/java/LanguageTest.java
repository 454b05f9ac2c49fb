import java.io.IOException;
import java.nio.file.Files;
import java.nio.file.Path;
import java.util.regex.Matcher;
import java.util.regex.Pattern;

/** Rules of LANGUAGE.md that can be seen in the text of the class. It is run from the project's folder. */
public final class LanguageTest {
    private static final Path SOURCE = Path.of("src/main/java/TendonLosses.java");
    private static final String[] FORBIDDEN = {"\\bthrow\\b", "\\bthrows\\b", "\\btry\\b", "\\bcatch\\b",
        "\\bsynchronized\\b", "\\bassert\\b", "\\bimport\\b", "\\bpackage\\b", "\\bprotected\\b", "->", "::",
        "Exact\\b", "\\bSystem\\.(?!arraycopy)", "\\bThread\\b", "\\bRandom\\b", "\\bObject\\b", "\\bdouble\\b",
        "\\bfloat\\b", "\\bhashCode\\b", "\\bwhile\\s*\\(\\s*true", "for\\s*\\(\\s*;\\s*;", "static\\s*\\{"};
    private static final int MOST_LINES_OF_A_METHOD = 60;
    private static final int MOST_CLASSES = 12;

    public static void main(String[] args) throws IOException {
        Checks checks = new Checks();
        String text = withoutComments(Files.readString(SOURCE));
        for (String pattern : FORBIDDEN) {
            checks.due("the text has " + pattern, Pattern.compile(pattern).matcher(text).find(), false);
        }
        checks.due("only plain characters", text.chars().allMatch(c -> c < 128), true);
        checks.due("not too many classes", count(text, "\\b(class|enum|record|interface)\\s+\\w+") <= MOST_CLASSES, true);
        methodsAreShort(checks, text);
        mathIsAllowed(checks, text);
        checks.finish();
    }

    private static String withoutComments(String text) {
        return text.replaceAll("(?s)/\\*.*?\\*/", "").replaceAll("//[^\n]*", "");
    }

    private static int count(String text, String pattern) {
        Matcher matcher = Pattern.compile(pattern).matcher(text);
        int found = 0;
        while (matcher.find()) {
            found++;
        }
        return found;
    }

    /** A method starts with a line that ends with ") {" at the depth of members and ends with its brace. */
    private static void methodsAreShort(Checks checks, String text) {
        Matcher matcher = Pattern.compile("(?m)^( {4}| {8})(?:[\\w\\[\\]<>]+ )+\\w+\\([^;{]*\\) \\{\\n(?s:(.*?))\\n\\1\\}")
                .matcher(text);
        int methods = 0;
        while (matcher.find()) {
            methods++;
            int lines = matcher.group().split("\n").length;
            checks.due("a method of " + lines + " lines is short", lines <= MOST_LINES_OF_A_METHOD, true);
            int commas = count(matcher.group().split("\\) \\{", 2)[0], ",");
            checks.due("at most seven parameters", commas <= 6, true);
        }
        checks.due("methods were found", methods > 17, true);
    }

    private static void mathIsAllowed(Checks checks, String text) {
        Matcher matcher = Pattern.compile("\\bMath\\.(\\w+)").matcher(text);
        while (matcher.find()) {
            checks.due("Math." + matcher.group(1), matcher.group(1).matches("max|min|abs"), true);
        }
    }
}
