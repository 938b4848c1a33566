import java.util.List;
import java.util.NoSuchElementException;

/** Compares answers with what is due and ends the test with exit code 1 on a difference. */
final class Check {
    static final String ARGUMENT = "throws.IllegalArgumentException";
    static final String STATE = "throws.IllegalStateException";
    static final String NO_ELEMENT = "throws.NoSuchElementException";

    private static final String[] STATEMENTS = {
        "PRINT", "CALL", "THROW", "TRY", "CATCH", "END", "LOCAL", "RETHROW"
    };
    private static final List<String> WITHOUT_X = List.of("TRY", "END", "RETHROW");

    private static int checked = 0;
    private static int wrong = 0;
    private static String leansOn = "";

    private Check() {
    }

    /** A call of the class under test or of the model. */
    interface Call {
        int answer();
    }

    /** The sentence of the document on which the answers that follow lean. */
    static void sentence(int promise, String text) {
        leansOn = "";
        same("promise " + promise + ", whether the document says: " + text, "true",
                Boolean.toString(Document.says(promise, text)));
        leansOn = "promise " + promise + ", '" + text + "': ";
    }

    static String answerOf(Call call) {
        try {
            return Integer.toString(call.answer());
        } catch (RuntimeException e) {
            // By the exact class, so that a subclass is not taken for the exception due.
            return "throws." + e.getClass().getSimpleName();
        }
    }

    static void due(String what, int want, Call call) {
        due(what, Integer.toString(want), call);
    }

    static void due(String what, String want, Call call) {
        same(what, want, answerOf(call));
    }

    static void same(String what, String want, String got) {
        checked++;
        if (!want.equals(got)) {
            wrong++;
            if (wrong <= 20) {
                System.out.println(leansOn + what + " answered " + got + ", due is " + want);
            }
        }
    }

    static void holds(String what, boolean condition) {
        same(what, "true", Boolean.toString(condition));
    }

    static void finish(String test) {
        System.out.println(test + ": " + checked + " answers, " + wrong + " wrong");
        if (wrong != 0 || checked == 0) {
            System.exit(1);
        }
    }

    /** Adds statements written as "TRY; CALL 1; CATCH -1; PRINT 3; END" to a text. */
    static void write(LandingPads pads, int function, String text) {
        for (String part : text.split(";")) {
            String[] words = part.trim().split(" ");
            if (words[0].isEmpty()) {
                continue;
            }
            int x = words.length > 1 ? Integer.parseInt(words[1]) : 0;
            pads.add(function, statementNumber(words[0]), x);
        }
    }

    /** Wipes, writes and compiles a text: how many instructions. */
    static int make(LandingPads pads, int function, String text) {
        pads.wipe(function);
        write(pads, function, text);
        return pads.compile(function);
    }

    /** A text, n times, one behind the other. */
    static String times(String text, int n) {
        StringBuilder all = new StringBuilder();
        for (int i = 0; i < n; i++) {
            all.append(i == 0 ? "" : "; ").append(text);
        }
        return all.toString();
    }

    /** wipe as a call that answers 0. */
    static int wiped(LandingPads pads, int function) {
        pads.wipe(function);
        return 0;
    }

    /** A statement as it is written here: "CATCH -1", "END". */
    static String statementName(int statement, int x) {
        String name = STATEMENTS[statement];
        return WITHOUT_X.contains(name) ? name : name + " " + x;
    }

    private static int statementNumber(String name) {
        for (int i = 0; i < STATEMENTS.length; i++) {
            if (STATEMENTS[i].equals(name)) {
                return i;
            }
        }
        throw new NoSuchElementException(name);
    }

    /** The code as "P1 T0 G8 D7 U X". */
    static String codeOf(LandingPads pads, int function) {
        StringBuilder all = new StringBuilder();
        int size = pads.size(function, 0);
        for (int p = 0; p < size; p++) {
            char letter = "PCTRGDEUX".charAt(pads.code(function, p, 0));
            int number = pads.code(function, p, 1);
            all.append(p == 0 ? "" : " ").append(letter);
            if ("PCTGD".indexOf(letter) >= 0 || number != 0) {
                all.append(number);
            }
        }
        return all.toString();
    }

    /** The actions as "filter>landing>next", one behind the other. */
    static String actionsOf(LandingPads pads, int function) {
        StringBuilder all = new StringBuilder();
        int size = pads.size(function, 1);
        for (int k = 0; k < size; k++) {
            all.append(k == 0 ? "" : " ").append(pads.action(function, k, 0)).append('>')
                    .append(pads.action(function, k, 1)).append('>').append(pads.action(function, k, 2));
        }
        return all.toString();
    }

    /** The sites as "first-last:head", one behind the other. */
    static String sitesOf(LandingPads pads, int function) {
        StringBuilder all = new StringBuilder();
        int size = pads.size(function, 2);
        for (int k = 0; k < size; k++) {
            all.append(k == 0 ? "" : " ").append(pads.site(function, k, 0)).append('-')
                    .append(pads.site(function, k, 1)).append(':').append(pads.site(function, k, 2));
        }
        return all.toString();
    }

    /** What the latest run put out, "1 2 107". */
    static String outOf(LandingPads pads) {
        StringBuilder all = new StringBuilder();
        int numbers = pads.count(0);
        for (int k = 0; k < numbers; k++) {
            all.append(k == 0 ? "" : " ").append(pads.out(k));
        }
        return all.toString();
    }

    /** The six counts of the latest run. */
    static String countsOf(LandingPads pads) {
        StringBuilder all = new StringBuilder();
        for (int what = 0; what < 6; what++) {
            all.append(what == 0 ? "" : " ").append(pads.count(what));
        }
        return all.toString();
    }
}
