import java.io.IOException;
import java.nio.file.Files;
import java.nio.file.Path;

/**
 * Ties tests to the sentences of the document, section by section: each sentence has a test of its
 * own, or is told to name no edge, and none is passed over. It is run from the folder of the project.
 */
final class Sentences {
    private static final Path DOCUMENT = Path.of("../shared/DOC.md");

    private static String section = "";
    /** What of the section has not been told yet. */
    private static String rest = "";

    private Sentences() {
    }

    /** Begins the section with that heading; the one before has to be told to its end. */
    static void of(String heading) {
        endSection();
        section = heading;
        String text = "\n" + read() + "\n## ";
        int start = text.indexOf("\n## " + heading + "\n");
        Check.that("the document has a section " + heading, start >= 0);
        int end = text.indexOf("\n## ", start + 1);
        String body = text.substring(text.indexOf('\n', start + 1), end);
        // Headings promise nothing, and the head of a method is for FaceTest.
        rest = plain(body.replaceAll("(?m)^#+ .*$", "")).replaceAll("^`[^`]*`: ", "");
    }

    /** The sentence, or a part of it, stands in the section, and its test holds. */
    static void test(String sentence, Runnable test) {
        noEdge(sentence);
        int before = Check.count();
        Check.about(section + ", \"" + sentence + "\": ");
        try {
            test.run();
        } catch (RuntimeException thrown) {
            Check.that("a call that makes the hall threw " + thrown, false);
        }
        Check.that("it is tested", Check.count() > before);
        Check.about("");
    }

    /** The sentence stands in the section, and there is nothing to test, or not here. */
    static void noEdge(String sentence) {
        int start = rest.indexOf(sentence);
        Check.that(section + " says: " + sentence, start >= 0);
        if (start >= 0) {
            // A line end stands for what is told, so that no two parts beside it become a sentence.
            rest = rest.substring(0, start) + "\n" + rest.substring(start + sentence.length());
        }
    }

    static void end(String name) {
        endSection();
        Check.end(name);
    }

    private static void endSection() {
        String untold = plain(rest.replaceAll("[-,;.:]", " "));
        Check.that(section + " has without a test: " + untold, untold.isEmpty());
        rest = "";
    }

    private static String plain(String text) {
        return text.replaceAll("\\s+", " ").trim();
    }

    private static String read() {
        try {
            return Files.readString(DOCUMENT);
        } catch (IOException unread) {
            Check.that("the document can be read: " + unread, false);
            return "";
        }
    }
}
