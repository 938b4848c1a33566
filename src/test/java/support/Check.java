import java.util.NoSuchElementException;

/** Compares answers with what is due and ends the test with exit code 1 on a difference. */
final class Check {
    static final String ARGUMENT = "throws.IllegalArgumentException";
    static final String STATE = "throws.IllegalStateException";
    static final String NO_ELEMENT = "throws.NoSuchElementException";

    private static int checked = 0;
    private static int wrong = 0;

    private Check() {
    }

    /** A call of the class under test or of the model. */
    interface Call {
        int answer();
    }

    static String answerOf(Call call) {
        try {
            return Integer.toString(call.answer());
        } catch (RuntimeException e) {
            // By the exact class, so that a subclass is not taken for the exception due.
            return "throws." + e.getClass().getSimpleName();
        }
    }

    static void due(String what, int want, Call call) {
        due(what, Integer.toString(want), call);
    }

    static void due(String what, String want, Call call) {
        same(what, want, answerOf(call));
    }

    static void same(String what, String want, String got) {
        checked++;
        if (!want.equals(got)) {
            wrong++;
            if (wrong <= 20) {
                System.out.println(what + " answered " + got + ", due is " + want);
            }
        }
    }

    static void finish(String test) {
        System.out.println(test + ": " + checked + " answers, " + wrong + " wrong");
        if (wrong != 0 || checked == 0) {
            System.exit(1);
        }
    }

    /** Adds statements written as "TRY; CALL 1; CATCH -1; PRINT 3; END" to a text. */
    static void write(LandingPads pads, int function, String text) {
        for (String part : text.split(";")) {
            String[] words = part.trim().split(" ");
            int x = words.length > 1 ? Integer.parseInt(words[1]) : 0;
            pads.add(function, statementNumber(words[0]), x);
        }
    }

    /** Wipes, writes and compiles a text: how many instructions. */
    static int make(LandingPads pads, int function, String text) {
        pads.wipe(function);
        if (!text.isEmpty()) {
            write(pads, function, text);
        }
        return pads.compile(function);
    }

    private static int statementNumber(String name) {
        String[] names = {"PRINT", "CALL", "THROW", "TRY", "CATCH", "END", "LOCAL", "RETHROW"};
        for (int i = 0; i < names.length; i++) {
            if (names[i].equals(name)) {
                return i;
            }
        }
        throw new NoSuchElementException(name);
    }

    /** The code as "P1 T0 G8 D7 U X". */
    static String codeOf(LandingPads pads, int function) {
        StringBuilder all = new StringBuilder();
        for (int p = 0; p < pads.size(function, 0); p++) {
            int letter = pads.code(function, p, 0);
            all.append(p == 0 ? "" : " ").append("PCTRGDEUX".charAt(letter));
            if ("PCTGD".indexOf("PCTRGDEUX".charAt(letter)) >= 0) {
                all.append(pads.code(function, p, 1));
            } else if (pads.code(function, p, 1) != 0) {
                all.append("!").append(pads.code(function, p, 1));
            }
        }
        return all.toString();
    }

    /** The actions as "filter>landing>next", one behind the other. */
    static String actionsOf(LandingPads pads, int function) {
        StringBuilder all = new StringBuilder();
        for (int k = 0; k < pads.size(function, 1); k++) {
            all.append(k == 0 ? "" : " ").append(pads.action(function, k, 0)).append('>')
                    .append(pads.action(function, k, 1)).append('>').append(pads.action(function, k, 2));
        }
        return all.toString();
    }

    /** The sites as "first-last:head", one behind the other. */
    static String sitesOf(LandingPads pads, int function) {
        StringBuilder all = new StringBuilder();
        for (int k = 0; k < pads.size(function, 2); k++) {
            all.append(k == 0 ? "" : " ").append(pads.site(function, k, 0)).append('-')
                    .append(pads.site(function, k, 1)).append(':').append(pads.site(function, k, 2));
        }
        return all.toString();
    }

    /** What the latest run put out, "1 2 107". */
    static String outOf(LandingPads pads) {
        StringBuilder all = new StringBuilder();
        for (int k = 0; k < pads.count(0); k++) {
            all.append(k == 0 ? "" : " ").append(pads.out(k));
        }
        return all.toString();
    }

    /** The six counts of the latest run. */
    static String countsOf(LandingPads pads) {
        StringBuilder all = new StringBuilder();
        for (int what = 0; what < 6; what++) {
            all.append(what == 0 ? "" : " ").append(pads.count(what));
        }
        return all.toString();
    }
}
