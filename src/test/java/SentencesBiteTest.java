import java.util.HashSet;
import java.util.List;
import java.util.Set;

/**
 * The tests of the sentences are tested: a wire that breaks a sentence must fail at a test of its
 * words, each test must be failed by a wire that breaks its words, and PlainWire passes them all.
 */
final class SentencesBiteTest {
    private static final Due due = new Due("SentencesBiteTest");

    public static void main(String[] args) {
        List<Sentence> sentences = SentencesTest.all();
        for (Sentence sentence : sentences) {
            sentence.put(PlainWire::new, due);
        }
        Set<Sentence> failed = new HashSet<>();
        for (BrokenWires.Broken broken : BrokenWires.all()) {
            due.is(broken + " is found", failsAt(broken, sentences, failed), true);
        }
        for (Sentence sentence : sentences) {
            due.is(sentence + " can fail", failed.contains(sentence), true);
        }
        due.end();
    }

    private static boolean failsAt(BrokenWires.Broken broken, List<Sentence> sentences,
            Set<Sentence> failed) {
        boolean any = false;
        for (Sentence sentence : sentences) {
            if (sentence.says(broken.where(), broken.words())) {
                Due silent = Due.silent();
                sentence.put(broken.maker(), silent);
                if (silent.wrong() > 0) {
                    failed.add(sentence);
                    any = true;
                }
            }
        }
        return any;
    }
}
