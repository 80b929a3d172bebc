import java.io.IOException;
import java.nio.file.Files;
import java.nio.file.Path;
import java.util.List;
import java.util.TreeSet;

/**
 * RecordWire against the rules of LANGUAGE.md that a look at its file can tell of; FaceTest has
 * rule 1. Classes that break a rule each show that the look would find it.
 */
final class LanguageTest {
    private static final Path PROGRAM = Path.of("src", "main", "java", "RecordWire.java");
    private static final Path LANGUAGE = Path.of("..", "shared", "LANGUAGE.md");
    private static final Due due = new Due("LanguageTest");

    public static void main(String[] args) throws IOException {
        List<Breach> breaches = breaches(Files.readString(PROGRAM));
        breaches.forEach(breach -> due.wrong(breach.toString()));
        due.is("breaches of RecordWire", breaches.size(), 0);
        due.is("breaches of what is allowed", breaches(allowed()).size(), 0);
        BrokenSources.all().forEach(LanguageTest::isFound);
        if (Files.isReadable(LANGUAGE)) {
            String language = Files.readString(LANGUAGE);
            BrokenSources.all().forEach(broken -> standsIn(language, broken));
        } else {
            System.out.println("no " + LANGUAGE + " here: the words are not held against it");
        }
        due.end();
    }

    /** It is found, and nothing else beside it. */
    private static void isFound(BrokenSources.Broken broken) {
        TreeSet<String> found = new TreeSet<>();
        for (Breach breach : breaches(broken.text())) {
            found.add(breach.rule() + " " + breach.words());
        }
        String want = broken.rule() + " " + broken.words();
        due.is(broken + " is found, in " + found, found.equals(new TreeSet<>(List.of(want))), true);
    }

    private static void standsIn(String language, BrokenSources.Broken broken) {
        int from = language.indexOf("\n" + broken.rule() + ". ");
        int to = language.indexOf("\n" + (broken.rule() + 1) + ". ");
        String rule = from < 0 ? "" : language.substring(from, to < 0 ? language.length() : to);
        due.is("rule " + broken.rule() + " says '" + broken.words() + "'",
                rule.contains(broken.words()), true);
    }

    private static List<Breach> breaches(String text) {
        return LanguageRules.breaches(new Source("RecordWire", text));
    }

    private static String allowed() {
        return BrokenSources.inClass("""
                private static final int[] WORDS = {1, 2};
                private final int[][] rows = new int[2][3];
                private final Part part = new Part(3);
                public RecordWire() { init(); }
                public void init() {
                    for (int i = 0; i < WORDS.length && i % 2 == 0; i++) {
                        rows[0][i] = (int) Long.rotateLeft(part.at() ^ WORDS[i], 3);
                    }
                }
                private static final class Part {
                    private final int first;
                    Part(int first) { this.first = first; }
                    int at() { return first; }
                }""");
    }
}
