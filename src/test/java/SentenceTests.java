import java.io.IOException;
import java.nio.file.Files;
import java.nio.file.Path;
import java.util.Set;

/**
 * For each sentence of "Terms" and of the promises that names a boundary case a test of its own, which tells the
 * sentence in the document's words. Run in the project's folder: then it is also seen that each word of these
 * sections is quoted by a test, or below as one of a sentence that names no boundary case.
 */
public final class SentenceTests {
    private SentenceTests() {
    }

    public static void main(String[] args) throws IOException {
        runAll();
        withoutBoundary();
        compareWithDocument(Path.of("../shared/DOC.md"));
        System.out.println("SentenceTests: " + Checks.passed + " passed, " + Checks.failed + " failed");
        System.exit(Checks.failed == 0 ? 0 : 1);
    }

    private static void runAll() {
        TermsOfCallsTests.run();
        TermsOfTunesTests.run();
        TermsOfTellingTests.run();
        EachPromiseTests.run();
        Checks.endSentence();
    }

    /** For Mutants, which knows this class by name alone. */
    public static void runQuietly() {
        Checks.quiet = true;
        runAll();
    }

    public static Set<String> failedSentences() {
        return Checks.failedSentences;
    }

    private static void withoutBoundary() {
        Checks.namesNoBoundary("Terms", "Ahead of the calls `hears`, `one`, `rename`, `move`, `dead`, `comes`, `type`, "
                + "`clear`, `read` the interface says: ---- a gorge.");
        Checks.namesNoBoundary("Terms", "Ahead of the calls `call`, `whistle`, `turned`, `heardOf`, `undo` the "
                + "interface says: ---- calls.");
        Checks.namesNoBoundary("Terms", "Ahead of the calls `taken`, `clash`, `alter`, `names`, `bride`, `thief`, "
                + "`whistled`, `word`, `free` the interface says: ---- tunes for all.");
        Checks.namesNoBoundary("Terms", "Ahead of the calls `image`, `from`, `status`, `count`, `digest` the interface "
                + "says: ---- what there is.");
    }

    private static void compareWithDocument(Path path) throws IOException {
        if (!Files.isReadable(path)) {
            System.out.println("SentenceTests: " + path + " is not there, so no sentence is looked for in it");
            return;
        }
        Document document = new Document(path);
        Checks.says("DOC.md", "Terms and promises 1 to 29");
        Checks.is("how many sections", document.sections(), 30);
        Checks.quotes.remove(Checks.quotes.size() - 1);
        for (String[] quote : Checks.quotes) {
            boolean stands = document.quote(quote[0], quote[1]);
            Checks.is(quote[0] + " has the words \"" + quote[1] + "\": 1", stands ? 1 : 0, 1);
        }
        for (String words : document.unquoted()) {
            Checks.fail("no test quotes, of " + words);
        }
    }
}
