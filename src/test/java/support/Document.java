import java.io.IOException;
import java.nio.file.Files;
import java.nio.file.Path;
import java.util.ArrayList;
import java.util.List;

/** The document's sections, so that no test leans on a sentence that is not there. */
final class Document {
    private static final Path PLACE = Path.of("../shared/DOC.md");
    private static String[] sections;

    private Document() {
    }

    /** Whether a sentence stands in a promise's section, or in one that all promises share. */
    static boolean says(int promise, String sentence) {
        for (String section : sections()) {
            boolean own = section.startsWith("Promise " + promise + ":");
            boolean shared = section.startsWith("Terms") || section.startsWith("What it is");
            if ((own || shared) && section.contains(sentence)) {
                return true;
            }
        }
        return false;
    }

    /** Whether a sentence stands in the document, however its lines are broken. */
    static boolean saysAnywhere(String sentence) {
        return oneLine(read()).contains(oneLine(sentence));
    }

    /** What stands below the title of each promise, in order, each in one line. */
    static List<String> promises() {
        List<String> promises = new ArrayList<>();
        for (String section : sections()) {
            if (section.startsWith("Promise " + (promises.size() + 1) + ":")) {
                promises.add(oneLine(section.substring(section.indexOf('\n'))));
            }
        }
        return promises;
    }

    /** The members that the document's public face shows, as they stand there. */
    static List<String> face() {
        List<String> members = new ArrayList<>();
        for (String line : read().split("\n")) {
            if (line.startsWith("    public ")) {
                members.add(line.trim());
            }
        }
        return members;
    }

    private static String oneLine(String text) {
        return text.replaceAll("\\s+", " ").trim();
    }

    private static String[] sections() {
        if (sections == null) {
            sections = read().split("\n## ");
        }
        return sections;
    }

    private static String read() {
        try {
            return Files.readString(PLACE);
        } catch (IOException e) {
            throw new IllegalStateException("the tests are run from the project's directory, beside ../shared", e);
        }
    }
}
