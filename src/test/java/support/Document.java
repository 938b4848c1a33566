import java.io.IOException;
import java.nio.file.Files;
import java.nio.file.Path;

/** The document's sections, so that no test leans on a sentence that is not there. */
final class Document {
    private static final Path PLACE = Path.of("../shared/DOC.md");
    private static String[] sections;

    private Document() {
    }

    /** Whether a sentence stands in a promise's section, or in one that all promises share. */
    static boolean says(int promise, String sentence) {
        for (String section : sections()) {
            boolean own = section.startsWith("Promise " + promise + ":");
            boolean shared = section.startsWith("Terms") || section.startsWith("What it is");
            if ((own || shared) && section.contains(sentence)) {
                return true;
            }
        }
        return false;
    }

    private static String[] sections() {
        if (sections == null) {
            sections = read().split("\n## ");
        }
        return sections;
    }

    private static String read() {
        try {
            return Files.readString(PLACE);
        } catch (IOException e) {
            throw new IllegalStateException("the tests are run from the project's directory, beside ../shared", e);
        }
    }
}
