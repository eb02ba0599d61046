import java.io.IOException;
import java.nio.file.Files;
import java.nio.file.Path;

/**
 * Tests of single sentences: each is told by words of the document, so that what it says there can
 * be laid beside what is tested, and a quotation that the document has no more is found.
 */
final class Edges {
    private static final String DOCUMENT = "../shared/DOC.md";
    private final Check check;
    private final String document;

    /** The arguments are those that .ci/run gives: the class, then the document. */
    Edges(Check check, String[] args) throws IOException {
        this.check = check;
        this.document = Files.readString(Path.of(args.length > 1 ? args[1] : DOCUMENT));
    }

    void sentence(String words, Runnable test) {
        check.holds("that the document says: " + words, document.contains(words));
        int wrong = check.wrong();
        int asked = check.asked();
        test.run();
        check.holds("a look at: " + words, check.asked() > asked);
        if (check.wrong() > wrong) {
            System.out.println("    of the sentence: " + words);
        }
    }

    void end() {
        check.end();
    }
}
