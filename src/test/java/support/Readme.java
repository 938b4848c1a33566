import java.io.IOException;
import java.nio.file.Files;
import java.nio.file.Path;
import java.util.ArrayList;
import java.util.List;
import java.util.regex.Matcher;
import java.util.regex.Pattern;

/** README.md, taken apart. */
final class Readme {
    private static final Pattern TABLE_NAME = Pattern.compile("\\| `(\\w+)` \\|.*");
    private final List<String> lines;

    Readme() {
        try {
            lines = Files.readAllLines(Path.of("README.md"));
        } catch (IOException e) {
            throw new IllegalStateException("the tests are run from the project's directory", e);
        }
    }

    /** The lines of all blocks of Java, without the empty ones. */
    List<String> javaLines() {
        List<String> java = new ArrayList<>();
        boolean inside = false;
        for (String line : lines) {
            if (line.startsWith("```")) {
                inside = line.equals("```java");
            } else if (inside && !line.isBlank()) {
                java.add(line);
            }
        }
        return java;
    }

    /** The quotations, each in one line. */
    List<String> quotations() {
        return joined(lines, "> ", "> ");
    }

    /** The items of the list in a section, each in one line. */
    List<String> items(String title) {
        return joined(section(title), "- ", "  ");
    }

    /** The names in the first column of the table in a section. */
    List<String> tableNames(String title) {
        List<String> names = new ArrayList<>();
        for (String line : section(title)) {
            Matcher row = TABLE_NAME.matcher(line);
            if (row.matches()) {
                names.add(row.group(1));
            }
        }
        return names;
    }

    private List<String> section(String title) {
        int start = lines.indexOf("## " + title) + 1;
        int end = start;
        while (start > 0 && end < lines.size() && !lines.get(end).startsWith("## ")) {
            end++;
        }
        return lines.subList(start, end);
    }

    /** Pieces that begin with one mark and whose later lines begin with another. */
    private static List<String> joined(List<String> from, String first, String later) {
        List<String> pieces = new ArrayList<>();
        StringBuilder piece = new StringBuilder();
        for (String line : from) {
            boolean goesOn = piece.length() > 0 && line.startsWith(later);
            if (!goesOn && piece.length() > 0) {
                pieces.add(piece.toString());
                piece.setLength(0);
            }
            if (goesOn) {
                piece.append(' ').append(line.substring(later.length()).trim());
            } else if (line.startsWith(first)) {
                piece.append(line.substring(first.length()).trim());
            }
        }
        if (piece.length() > 0) {
            pieces.add(piece.toString());
        }
        return pieces;
    }
}
