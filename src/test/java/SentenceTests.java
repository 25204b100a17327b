import java.io.IOException;
import java.nio.file.Files;
import java.nio.file.Path;
import java.util.Set;

/**
 * For each sentence of the document that names a boundary case a test of its own, which tells the sentence in the
 * document's words. Run in the project's folder: then it is also seen that each word of the document is quoted by a
 * test, or below as one of a sentence that names no boundary case.
 */
public final class SentenceTests {
    private SentenceTests() {
    }

    public static void main(String[] args) throws IOException {
        runAll();
        withoutBoundary();
        compareWithDocument(Path.of("../shared/DOC.md"));
        System.out.println("SentenceTests: " + Checks.passed + " passed, " + Checks.failed + " failed");
        System.exit(Checks.failed == 0 ? 0 : 1);
    }

    private static void runAll() {
        WhatItIsTests.run();
        TermsOfCallsTests.run();
        TermsOfTunesTests.run();
        TermsOfTellingTests.run();
        EachPromiseTests.run();
        Checks.endSentence();
    }

    /** For Mutants, which knows this class by name alone. */
    public static void runQuietly() {
        Checks.quiet = true;
        runAll();
    }

    public static Set<String> failedSentences() {
        return Checks.failedSentences;
    }

    private static void withoutBoundary() {
        Checks.namesNoBoundary("Terms", "Ahead of the calls `hears`, `one`, `rename`, `move`, `dead`, `comes`, `type`, "
                + "`clear`, `read` the interface says: ---- a gorge.");
        Checks.namesNoBoundary("Terms", "Ahead of the calls `call`, `whistle`, `turned`, `heardOf`, `undo` the "
                + "interface says: ---- calls.");
        Checks.namesNoBoundary("Terms", "Ahead of the calls `taken`, `clash`, `alter`, `names`, `bride`, `thief`, "
                + "`whistled`, `word`, `free` the interface says: ---- tunes for all.");
        Checks.namesNoBoundary("Terms", "Ahead of the calls `image`, `from`, `status`, `count`, `digest` the interface "
                + "says: ---- what there is.");
        Checks.namesNoBoundary("Not promised", "How the state is held inside the object is free, as are the speed of "
                + "each call, the text of toString and the behaviour of equals and hashCode. Use of one object from "
                + "several threads at once is not promised to be safe. Nothing is promised beyond the answers and state "
                + "changes described above, and nothing about an object after its 512th call.");
    }

    private static void compareWithDocument(Path path) throws IOException {
        if (!Files.isReadable(path)) {
            System.out.println("SentenceTests: " + path + " is not there, so no sentence is looked for in it");
            return;
        }
        Document document = new Document(path);
        Checks.says("DOC.md", "What it is, the public face, terms, promises 1 to 29, not promised");
        Checks.is("how many sections", document.sections(), 33);
        Checks.quotes.remove(Checks.quotes.size() - 1);
        for (String[] quote : Checks.quotes) {
            boolean stands = document.quote(quote[0], quote[1]);
            Checks.is(quote[0] + " has the words \"" + quote[1] + "\": 1", stands ? 1 : 0, 1);
        }
        for (String words : document.unquoted()) {
            Checks.fail("no test quotes, of " + words);
        }
    }
}
