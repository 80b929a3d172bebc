import java.util.function.Consumer;
import java.util.function.Supplier;

/**
 * Words of the document, the edge of them that a test is about, and that test. Where they stand is
 * the start of the section's heading.
 */
record Sentence(String where, String words, String edge, Consumer<Trial> test) {
    static Sentence terms(String words, String edge, Consumer<Trial> test) {
        return new Sentence("Terms", words, edge, test);
    }

    static Sentence promise(int number, String words, String edge, Consumer<Trial> test) {
        return new Sentence("Promise " + number, words, edge, test);
    }

    /** The document lets no call throw, so whatever is thrown is a wrong answer too. */
    void put(Supplier<Wire> maker, Due due) {
        try {
            test.accept(new Trial(this + ": ", maker, due));
        } catch (RuntimeException e) {
            due.wrong(this + ": threw " + e);
        }
    }

    boolean says(String otherWhere, String otherWords) {
        return where.equals(otherWhere) && words.equals(otherWords);
    }

    @Override
    public String toString() {
        return where + " '" + words + "' (" + edge + ")";
    }
}
