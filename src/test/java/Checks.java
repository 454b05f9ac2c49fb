import java.util.List;

/**
 * Counts the answers that are not as due, and ends the program with 1 if there was one. A test of the
 * document names the section and, before it asks, the words of it that it looks at.
 */
final class Checks {
    private final String section;
    private String words = "";
    private int wrong = 0;
    private int asked = 0;
    private int askedOfWords = 0;
    private int sentences = 0;

    Checks() {
        this("");
    }

    Checks(String section) {
        this.section = section;
    }

    /** What is asked from here on tells whether these words hold; SentencesTest looks for them there. */
    void sentence(String words) {
        endSentence();
        this.words = words;
        askedOfWords = 0;
        sentences++;
    }

    private void endSentence() {
        if (!words.isEmpty() && askedOfWords == 0) {
            say("nothing is asked");
        }
        words = "";
    }

    private void say(String what) {
        wrong++;
        String place = section.isEmpty() ? "" : section + " \"" + words + "\": ";
        System.out.println(place + what);
    }

    private void count() {
        asked++;
        askedOfWords++;
    }

    void due(String call, long got, long want) {
        count();
        if (got != want) {
            say(call + " answered " + got + ", due is " + want);
        }
    }

    void due(String call, boolean got, boolean want) {
        due(call, got ? 1 : 0, want ? 1 : 0);
    }

    /** Rows of answers: the first that differs is told. */
    void due(String call, List<String> got, List<String> want) {
        count();
        for (int i = 0; i < Math.max(got.size(), want.size()); i++) {
            String one = i < got.size() ? got.get(i) : "nothing";
            String other = i < want.size() ? want.get(i) : "nothing";
            if (!one.equals(other)) {
                say(call + ": " + one + ", due is " + other);
                return;
            }
        }
    }

    void finish() {
        endSentence();
        System.out.println(asked + " answers asked of " + sentences + " sentences, " + wrong + " wrong");
        if (wrong != 0 || asked == 0) {
            System.exit(1);
        }
    }
}
