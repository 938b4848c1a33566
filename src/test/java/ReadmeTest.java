import java.io.File;
import java.util.ArrayList;
import java.util.List;
import java.util.TreeSet;
import java.util.regex.Matcher;
import java.util.regex.Pattern;

/** What README.md shows of the class is what the class answers, in the document's words. */
public final class ReadmeTest {
    private static final String NEW_OBJECT = "LandingPads pads = new LandingPads();";
    private static final Pattern CALL = Pattern.compile(
            "pads\\.(\\w+)\\((-?\\d+(?:, -?\\d+)*)\\); +// (nothing|-?\\d+|throws \\w+)(?:: (.+))?");
    private static final String NOTHING = "nothing";

    private static final TreeSet<String> shown = new TreeSet<>();
    private static LandingPads pads;

    public static void main(String[] args) {
        Readme readme = new Readme();
        callsWithTheirAnswers(readme);
        everyMethodInTheDocumentsWords(readme);
        quotationsOfTheDocument(readme);
        tablesOfWhatThereIs(readme);
        Check.finish("ReadmeTest");
    }

    private static void callsWithTheirAnswers(Readme readme) {
        for (String line : readme.javaLines()) {
            Matcher call = CALL.matcher(line);
            if (line.equals(NEW_OBJECT)) {
                pads = new LandingPads();
            } else if (call.matches()) {
                compare(line, call);
            } else {
                Check.same("README.md, a line that is no call with its answer", "", line);
            }
        }
        Check.same("the methods that README.md's example calls",
                "[action, add, code, compile, count, out, run, site, size, type, wipe]", shown.toString());
    }

    private static void compare(String line, Matcher call) {
        String name = call.group(1);
        int[] x = numbers(call.group(2));
        shown.add(name);
        Check.same("README.md, '" + line + "'", call.group(3), answerOf(name, x));
        if (call.group(3).startsWith("throws")) {
            return;
        }
        // Behind these answers README.md writes the statement and the code out.
        if (name.equals("add")) {
            Check.same("README.md, the statement of '" + line + "'", Check.statementName(x[1], x[2]), call.group(4));
        } else if (name.equals("compile")) {
            Check.same("README.md, the code of '" + line + "'", Check.codeOf(pads, x[0]), call.group(4));
        }
    }

    private static int[] numbers(String text) {
        String[] parts = text.split(", ");
        int[] numbers = new int[parts.length];
        for (int i = 0; i < parts.length; i++) {
            numbers[i] = Integer.parseInt(parts[i]);
        }
        return numbers;
    }

    private static String answerOf(String name, int[] x) {
        if (pads == null) {
            return "no object was made before";
        }
        String answer = Check.answerOf(() -> answer(name, x)).replace("throws.", "throws ");
        return name.equals("wipe") && answer.equals("0") ? NOTHING : answer;
    }

    private static int answer(String name, int[] x) {
        return switch (name + x.length) {
            case "type1" -> pads.type(x[0]);
            case "add3" -> pads.add(x[0], x[1], x[2]);
            case "wipe1" -> Check.wiped(pads, x[0]);
            case "compile1" -> pads.compile(x[0]);
            case "size2" -> pads.size(x[0], x[1]);
            case "code3" -> pads.code(x[0], x[1], x[2]);
            case "action3" -> pads.action(x[0], x[1], x[2]);
            case "site3" -> pads.site(x[0], x[1], x[2]);
            case "run1" -> pads.run(x[0]);
            case "count1" -> pads.count(x[0]);
            case "out1" -> pads.out(x[0]);
            default -> throw new UnsupportedOperationException(name);
        };
    }

    private static void everyMethodInTheDocumentsWords(Readme readme) {
        List<String> items = readme.items("Its methods");
        List<String> promises = Document.promises();
        Check.same("how many promises the document has", "12", Integer.toString(promises.size()));
        Check.same("how many methods README.md tells of", Integer.toString(promises.size()),
                Integer.toString(items.size()));
        for (int i = 0; i < Math.min(items.size(), promises.size()); i++) {
            Check.same("README.md, promise " + (i + 1), promises.get(i), items.get(i));
        }
    }

    private static void quotationsOfTheDocument(Readme readme) {
        Check.holds("README.md quotes the document", !readme.quotations().isEmpty());
        for (String quotation : readme.quotations()) {
            Check.holds("whether the document says what README.md quotes: " + quotation,
                    Document.saysAnywhere(quotation));
        }
    }

    private static void tablesOfWhatThereIs(Readme readme) {
        Check.same("the tests in README.md's table", testsThatThereAre().toString(),
                new TreeSet<>(readme.tableNames("How to run its tests")).toString());
        List<String> inside = new ArrayList<>();
        for (Class<?> c : LandingPads.class.getDeclaredClasses()) {
            inside.add(c.getSimpleName());
        }
        Check.same("the classes in README.md's table", new TreeSet<>(inside).toString(),
                new TreeSet<>(readme.tableNames("How it is built")).toString());
    }

    private static TreeSet<String> testsThatThereAre() {
        TreeSet<String> names = new TreeSet<>();
        String[] files = new File("src/test/java").list();
        for (String file : files == null ? new String[0] : files) {
            if (file.endsWith("Test.java")) {
                names.add(file.substring(0, file.length() - ".java".length()));
            }
        }
        return names;
    }
}
