import java.io.IOException;
import java.nio.file.Files;
import java.nio.file.Path;
import java.util.ArrayList;
import java.util.List;
import java.util.regex.Matcher;
import java.util.regex.Pattern;

/**
 * Puts the test of every sentence to RecordWire. The words are held against the document too: each
 * must stand where its test says, and of 'Terms' and the promises no word may be without a test.
 */
final class SentencesTest {
    private static final Path DOCUMENT = Path.of("..", "shared", "DOC.md");
    private static final int PROMISES = 14;
    private static final Due due = new Due("SentencesTest");

    public static void main(String[] args) throws IOException {
        List<Sentence> sentences = all();
        for (Sentence sentence : sentences) {
            int before = due.checked();
            sentence.put(RealWire::new, due);
            due.is(sentence + " looks at something", due.checked() > before, true);
        }
        if (Files.isReadable(DOCUMENT)) {
            holdAgainst(Files.readString(DOCUMENT), sentences);
        } else {
            System.out.println("no " + DOCUMENT + " here: the words are not held against it");
        }
        System.out.println(sentences.size() + " tests of sentences");
        due.end();
    }

    static List<Sentence> all() {
        List<Sentence> all = new ArrayList<>();
        all.addAll(TermsSentences.all());
        all.addAll(OpeningSentences.all());
        all.addAll(SendingSentences.all());
        all.addAll(DeliverSentences.all());
        all.addAll(WireSentences.all());
        return all;
    }

    private static void holdAgainst(String document, List<Sentence> sentences) {
        for (Sentence sentence : sentences) {
            boolean stands = section(document, sentence.where()).contains(sentence.words());
            due.is(sentence + " stands in the document", stands, true);
        }
        everyWordHasATest(document, "Terms", sentences);
        for (int number = 1; number <= PROMISES; number++) {
            everyWordHasATest(document, "Promise " + number, sentences);
        }
    }

    private static void everyWordHasATest(String document, String where, List<Sentence> sentences) {
        String section = section(document, where);
        StringBuilder left = new StringBuilder(section);
        for (Sentence sentence : sentences) {
            if (sentence.where().equals(where)) {
                int at = section.indexOf(sentence.words());
                for (int i = 0; at >= 0 && i < sentence.words().length(); i++) {
                    left.setCharAt(at + i, ' ');
                }
            }
        }
        String untested = left.toString().strip();
        due.is(where + ", words without a test: '" + untested + "'", untested.isEmpty(), true);
    }

    /** The words of a section, without its heading, titles, marks and the call it is about. */
    private static String section(String document, String where) {
        Matcher heading = Pattern.compile("(?m)^## " + where + "\\b.*$").matcher(document);
        if (!heading.find()) {
            due.wrong(where + " is not in the document");
            return "";
        }
        int to = document.indexOf("\n## ", heading.end());
        return document.substring(heading.end(), to < 0 ? document.length() : to)
                .replaceAll("(?m)^(========|```).*$", "")
                .replaceAll("`[^`]*`:", "")
                .replaceAll("\\s+", " ");
    }
}
