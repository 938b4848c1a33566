/** The boundary cases of promises 5 to 9, each with the sentence that names it. */
public final class BoundaryCompileTest {
    private static final int LEAST = Integer.MIN_VALUE;
    private static final int MOST = Integer.MAX_VALUE;
    private static final int[] NO_FUNCTIONS = {-1, 6, LEAST, LEAST + 5, MOST, -6, 7, 65536, 256, -256};
    // Of all texts of 20 statements these make the most instructions and actions, and the most sites.
    private static final String MOST_ACTIONS = "TRY; " + Check.times("CATCH -1", 18) + "; END";
    private static final String MOST_SITES = "CALL 0; " + Check.times("LOCAL 1; CALL 1", 5) + "; "
            + Check.times("END; CALL 2", 4) + "; END";

    public static void main(String[] args) {
        compileLeastAndMost();
        compileInPlaceOfOther();
        compileEachFunction();
        compileNoFunction();
        notWellFormedWithoutCode();
        notWellFormedWithCode();
        notWellFormedThenMended();
        rowsOfAnyLength();
        emptyRowsInside();
        rethrowInsideCatch();
        rethrowOfAnotherText();
        localAndEnd();
        tryCatchesAndEnd();
        fiveRowsOfEveryKind();
        rowsBesideOneAnother();

        codeOfLocal();
        codeOfTry();
        codeGoesBehind();
        lettersAsNumbers();
        sizes();
        sizeWithoutCode();
        sizeNoFunctionOrWhat();
        codeFirstAndLast();
        codeWithoutNumber();

        actionFirstAndLast();
        actionsOfEachCatch();
        actionNextOfOutermost();
        actionNextInside();
        siteFirstAndLast();
        sitesOfOnePlace();
        sitesWithTheSameHead();
        siteHeads();
        Check.finish("BoundaryCompileTest");
    }

    private static LandingPads made(String text) {
        LandingPads pads = new LandingPads();
        Check.make(pads, 3, text);
        return pads;
    }

    private static void taken(String text) {
        LandingPads pads = new LandingPads();
        Check.write(pads, 3, text);
        String answer = Check.answerOf(() -> pads.compile(3));
        Check.holds("whether it is taken: " + text, !answer.startsWith("throws."));
        Check.due("the code of " + text, answer, () -> pads.size(3, 0));
    }

    private static void refused(String text) {
        LandingPads pads = new LandingPads();
        Check.write(pads, 3, text);
        Check.due("compile of " + text, Check.STATE, () -> pads.compile(3));
        Check.due("the code of " + text, 0, () -> pads.size(3, 0));
        Check.due("the run of " + text, Check.STATE, () -> pads.run(3));
    }

    // Promise 5: compile.

    private static void compileLeastAndMost() {
        Check.sentence(5, "in place of what it had: how many instructions.");
        LandingPads pads = new LandingPads();
        Check.due("an empty text", 1, () -> pads.compile(0));
        Check.due("one statement", 2, () -> Check.make(pads, 0, "PRINT 1"));
        Check.due("twenty statements", 21, () -> Check.make(pads, 0, Check.times("PRINT 1", 20)));
        Check.due("the most", 74, () -> Check.make(pads, 0, MOST_ACTIONS));
        Check.due("the last of all", 8, () -> pads.code(0, 73, 0));
    }

    private static void compileInPlaceOfOther() {
        Check.sentence(5, "in place of what it had: how many instructions.");
        LandingPads pads = made(MOST_ACTIONS);
        Check.due("the least behind the most", 1, () -> Check.make(pads, 3, ""));
        Check.same("its code", "X", Check.codeOf(pads, 3));
        Check.due("no second instruction", Check.NO_ELEMENT, () -> pads.code(3, 1, 0));
        Check.due("no action", Check.NO_ELEMENT, () -> pads.action(3, 0, 0));
        Check.due("the sites behind the least", 10, () -> Check.make(pads, 3, MOST_SITES) * 0 + pads.size(3, 2));
        Check.make(pads, 3, "PRINT 1; CALL 2");
        Check.same("fewer sites", "1-1:-1", Check.sitesOf(pads, 3));
        Check.due("no second site", Check.NO_ELEMENT, () -> pads.site(3, 1, 0));
        Check.due("the same once more", 3, () -> pads.compile(3));
        Check.same("and its sites", "1-1:-1", Check.sitesOf(pads, 3));
    }

    private static void compileEachFunction() {
        Check.sentence(5, "FUNCTIONS 0 .. 5 each have a TEXT of at most 20 STATEMENTS");
        LandingPads pads = new LandingPads();
        for (int f = 0; f < 6; f++) {
            int function = f;
            Check.due("function " + f, 3 + f, () -> Check.make(pads, function, Check.times("PRINT " + function, 2 + function)));
        }
        for (int f = 0; f < 6; f++) {
            Check.same("the code of " + f, Check.times("P" + f, 2 + f).replace(";", "") + " X", Check.codeOf(pads, f));
        }
    }

    private static void compileNoFunction() {
        Check.sentence(5, "Throws IllegalArgumentException when there is no such function");
        LandingPads pads = new LandingPads();
        for (int function : NO_FUNCTIONS) {
            Check.due("function " + function, Check.ARGUMENT, () -> pads.compile(function));
        }
        for (int f = 0; f < 6; f++) {
            int function = f;
            Check.due("function " + f + " has no code yet", 0, () -> pads.size(function, 0));
            Check.due("function " + f, 1, () -> pads.compile(function));
        }
    }

    private static void notWellFormedWithoutCode() {
        Check.sentence(5, "IllegalStateException when its text is not well formed (then what it had stays)");
        LandingPads pads = new LandingPads();
        Check.write(pads, 0, "CALL 0; LOCAL 1; CALL 1; END; END");
        Check.due("compile", Check.STATE, () -> pads.compile(0));
        for (int what = 0; what < 3; what++) {
            int w = what;
            Check.due("size " + what, 0, () -> pads.size(0, w));
        }
        Check.due("code", Check.NO_ELEMENT, () -> pads.code(0, 0, 0));
        Check.due("action", Check.NO_ELEMENT, () -> pads.action(0, 0, 0));
        Check.due("site", Check.NO_ELEMENT, () -> pads.site(0, 0, 0));
        Check.due("run", Check.STATE, () -> pads.run(0));
        Check.due("the text stays", 6, () -> pads.add(0, 0, 0));
    }

    private static void notWellFormedWithCode() {
        Check.sentence(5, "IllegalStateException when its text is not well formed (then what it had stays)");
        LandingPads pads = made("LOCAL 4; THROW 0; END");
        // Each is wrong only at its very end, or at its very beginning.
        for (String text : new String[] {"CALL 0; TRY; CALL 1; CATCH 0", "CALL 0; LOCAL 1; THROW 0", "CALL 1; END",
            "RETHROW; PRINT 1", "END; PRINT 1", "CATCH 0; END", "PRINT 1; TRY; THROW 0; END"}) {
            pads.wipe(3);
            Check.write(pads, 3, text);
            Check.due("compile of " + text, Check.STATE, () -> pads.compile(3));
            Check.same("the code stays", "T0 D4 G5 D4 U X", Check.codeOf(pads, 3));
            Check.same("the actions stay", "-2>3>-1", Check.actionsOf(pads, 3));
            Check.same("the sites stay", "0-0:0", Check.sitesOf(pads, 3));
        }
        Check.due("it runs as before", 1, () -> pads.run(3));
    }

    private static void notWellFormedThenMended() {
        Check.sentence(5, "IllegalStateException when its text is not well formed (then what it had stays)");
        LandingPads pads = new LandingPads();
        Check.write(pads, 0, "TRY; LOCAL 2");
        Check.due("without its END", Check.STATE, () -> pads.compile(0));
        Check.due("END", 3, () -> pads.add(0, 5, 0));
        Check.due("without CATCH", Check.STATE, () -> pads.compile(0));
        Check.due("CATCH", 4, () -> pads.add(0, 4, -1));
        Check.due("without its END", Check.STATE, () -> pads.compile(0));
        Check.due("END", 5, () -> pads.add(0, 5, 0));
        Check.due("well formed", 10, () -> pads.compile(0));
        Check.due("one END too many", 6, () -> pads.add(0, 5, 0));
        Check.due("no longer", Check.STATE, () -> pads.compile(0));
        Check.same("the code stays", "D2 G4 D2 U G9 E G9 E U X", Check.codeOf(pads, 0));
    }

    private static void rowsOfAnyLength() {
        Check.sentence(5, "A text is WELL FORMED if it is a ROW: any number of: PRINT, CALL, THROW");
        taken("");
        for (String statement : new String[] {"PRINT 0", "CALL 0", "THROW 0"}) {
            taken(statement);
            taken(Check.times(statement, 19));
            taken(Check.times(statement, 20));
        }
    }

    private static void emptyRowsInside() {
        Check.sentence(5, "LOCAL, a row, END; TRY, a row, then one or more times CATCH and a row, then END.");
        taken("LOCAL 0; END");
        taken(Check.times("LOCAL 0; END", 10));
        taken("TRY; CATCH 0; END");
        taken("TRY; PRINT 0; CATCH 0; END");
        taken("TRY; CATCH 0; PRINT 0; END");
        taken("LOCAL 0; " + Check.times("PRINT 0", 18) + "; END");
        taken("TRY; " + Check.times("PRINT 0", 17) + "; CATCH 0; END");
        taken("TRY; CATCH 0; " + Check.times("PRINT 0", 17) + "; END");
    }

    private static void rethrowInsideCatch() {
        Check.sentence(5, "RETHROW, inside the row of a CATCH (of this text)");
        taken("TRY; CATCH 0; RETHROW; END");
        taken("TRY; CATCH 0; CATCH -1; RETHROW; END");
        taken("TRY; CATCH 0; RETHROW; CATCH -1; END");
        taken("TRY; CATCH 0; LOCAL 1; LOCAL 2; LOCAL 3; LOCAL 4; RETHROW; END; END; END; END; END");
        taken("TRY; CATCH 0; TRY; RETHROW; CATCH 0; END; END");
        taken("TRY; CATCH 0; LOCAL 1; END; RETHROW; END");
        taken("TRY; CATCH 0; TRY; CATCH 0; END; RETHROW; END");
        refused("RETHROW");
        refused("RETHROW; TRY; CATCH 0; END");
        refused("TRY; RETHROW; CATCH 0; END");
        refused("TRY; LOCAL 1; RETHROW; END; CATCH 0; END");
        refused("LOCAL 1; RETHROW; END");
        refused("TRY; CATCH 0; END; RETHROW");
        refused("TRY; TRY; CATCH 0; END; RETHROW; CATCH 0; END");
        refused("LOCAL 1; TRY; CATCH 0; END; RETHROW; END");
        refused("TRY; CATCH 0; TRY; CATCH 0; END; END; RETHROW");
    }

    private static void rethrowOfAnotherText() {
        Check.sentence(5, "RETHROW, inside the row of a CATCH (of this text)");
        LandingPads pads = new LandingPads();
        Check.make(pads, 0, "TRY; THROW 0; CATCH 0; CALL 1; END");
        Check.write(pads, 1, "RETHROW");
        Check.due("a RETHROW that is only called from a CATCH", Check.STATE, () -> pads.compile(1));
        Check.due("so its function has no code", 4, () -> pads.run(0));
    }

    private static void localAndEnd() {
        Check.sentence(5, "LOCAL, a row, END;");
        taken("LOCAL 1; END; LOCAL 2; END");
        refused("LOCAL 1");
        refused("END");
        refused("END; LOCAL 1");
        refused("LOCAL 1; END; END");
        refused("LOCAL 1; LOCAL 2; END");
        refused("LOCAL 1; CATCH 0; END");
        refused("TRY; LOCAL 1; CATCH 0; END; END");
        refused("TRY; CATCH 0; LOCAL 1; CATCH 0; END; END");
        refused(Check.times("END", 20));
        refused(Check.times("LOCAL 1", 20));
    }

    private static void tryCatchesAndEnd() {
        Check.sentence(5, "TRY, a row, then one or more times CATCH and a row, then END.");
        for (int catches = 1; catches <= 18; catches++) {
            taken("TRY; " + Check.times("CATCH 0", catches) + "; END");
        }
        refused("TRY; END");
        refused("TRY; PRINT 1; END");
        refused("TRY; TRY; CATCH 0; END; END");
        refused("TRY; CATCH 0; TRY; END; END");
        refused("TRY");
        refused("TRY; CATCH 0");
        refused("TRY; " + Check.times("CATCH 0", 19));
        refused("TRY; TRY; CATCH 0; END");
        refused("TRY; CATCH 0; END; END");
        refused("TRY; CATCH 0; END; CATCH 0; END");
        refused("CATCH 0");
        refused("CATCH 0; END");
        refused(Check.times("CATCH 0", 20));
        refused(Check.times("TRY", 20));
    }

    private static void fiveRowsOfEveryKind() {
        Check.sentence(5, "Not more than 5 rows lie in one another, besides the outermost.");
        // A number's digits to the base 3 are the kinds of rows, the innermost first.
        for (int kinds = 0; kinds < 243; kinds++) {
            taken(nested(kinds, 5));
        }
        for (int kinds = 0; kinds < 729; kinds++) {
            refused(nested(kinds, 6));
        }
        refused(Check.times("LOCAL 1", 10) + "; " + Check.times("END", 10));
    }

    private static String nested(int kinds, int rows) {
        String text = "";
        int left = kinds;
        for (int i = 0; i < rows; i++) {
            String inner = text.isEmpty() ? "" : text + "; ";
            switch (left % 3) {
                case 0 -> text = "LOCAL 1; " + inner + "END";
                case 1 -> text = "TRY; " + inner + "CATCH 0; END";
                default -> text = "TRY; CATCH 0; " + inner + "END";
            }
            left /= 3;
        }
        return text;
    }

    private static void rowsBesideOneAnother() {
        Check.sentence(5, "Not more than 5 rows lie in one another, besides the outermost.");
        taken(Check.times("LOCAL 1", 5) + "; " + Check.times("END", 5) + "; "
                + Check.times("LOCAL 1", 5) + "; " + Check.times("END", 5));
        taken(Check.times("LOCAL 1", 4) + "; TRY; " + Check.times("CATCH 0", 10) + "; " + Check.times("END", 5));
        taken(Check.times("LOCAL 1", 4) + "; " + Check.times("LOCAL 1; END", 6) + "; " + Check.times("END", 4));
        refused(Check.times("LOCAL 1", 5) + "; END; LOCAL 1; LOCAL 1; END; END; " + Check.times("END", 4));
    }

    // Promises 6 and 7: size and code.

    private static void codeOfLocal() {
        Check.sentence(7, "LOCAL x, a row, END: the row's code; D x; G to behind all this; here is the LANDING: D x; U; behind.");
        Check.same("an empty row", "D0 G4 D0 U X", Check.codeOf(made("LOCAL 0; END"), 3));
        Check.same("the greatest x", "P99 D99 G5 D99 U X", Check.codeOf(made("LOCAL 99; PRINT 99; END"), 3));
    }

    private static void codeOfTry() {
        Check.sentence(7, "TRY .. END: the code of its row; G to behind all this; then for each CATCH: here is its landing:"
                + " its row's code; E; G to behind all this; here is the landing of its END: E; U; behind.");
        Check.same("empty rows", "G5 E G5 E U X", Check.codeOf(made("TRY; CATCH 0; END"), 3));
        Check.same("two empty ones", "G9 E G9 E U E G9 E U X", Check.codeOf(made("TRY; CATCH 0; CATCH -1; END"), 3));
        LandingPads pads = made(MOST_ACTIONS);
        for (int p = 0; p < 73; p++) {
            int place = p;
            boolean jumps = p % 4 == 2 || p == 0;
            Check.due("letter " + p, jumps ? 4 : p % 4 == 0 ? 7 : 6, () -> pads.code(3, place, 0));
            Check.due("number " + p, jumps ? 73 : 0, () -> pads.code(3, place, 1));
        }
    }

    private static void codeGoesBehind() {
        Check.sentence(7, "At the end of the outermost row: X.");
        Check.same("all Gs that go to X", "D5 G4 D5 U D4 G8 D4 U D3 G12 D3 U D2 G16 D2 U D1 G20 D1 U X",
                Check.codeOf(made("LOCAL 1; LOCAL 2; LOCAL 3; LOCAL 4; LOCAL 5; " + Check.times("END", 5)), 3));
        Check.same("a G to the code behind", "D1 G4 D1 U P2 X", Check.codeOf(made("LOCAL 1; END; PRINT 2"), 3));
        Check.same("an empty text", "X", Check.codeOf(made(""), 3));
    }

    private static void lettersAsNumbers() {
        Check.sentence(7, "Letters as numbers: P 0, C 1, T 2, R 3, G 4, D 5, E 6, U 7, X 8.");
        LandingPads pads = made("PRINT 1; CALL 1; TRY; THROW 0; CATCH 0; RETHROW; END; LOCAL 1; END");
        int[] letters = {0, 1, 2, 4, 3, 6, 4, 6, 7, 5, 4, 5, 7, 8};
        for (int p = 0; p < letters.length; p++) {
            int place = p;
            Check.due("letter " + p, letters[p], () -> pads.code(3, place, 0));
        }
        Check.due("no more", letters.length, () -> pads.size(3, 0));
    }

    private static void sizes() {
        Check.sentence(6, "How many instructions (what 0), actions (1), sites (2) a function has");
        sizesAre("", 1, 0, 0);
        sizesAre("CALL 0", 2, 0, 1);
        sizesAre("LOCAL 0; END", 5, 1, 0);
        sizesAre("TRY; CATCH 0; END", 6, 2, 0);
        sizesAre(Check.times("THROW 0", 20), 21, 0, 1);
        sizesAre(Check.times("LOCAL 0; END", 10), 41, 10, 0);
        sizesAre(MOST_ACTIONS, 74, 36, 0);
        sizesAre(MOST_SITES, 31, 5, 10);
    }

    private static void sizesAre(String text, int instructions, int actions, int sites) {
        LandingPads pads = made(text);
        Check.due("instructions of " + text, instructions, () -> pads.size(3, 0));
        Check.due("actions of " + text, actions, () -> pads.size(3, 1));
        Check.due("sites of " + text, sites, () -> pads.size(3, 2));
    }

    private static void sizeWithoutCode() {
        Check.sentence(6, "0 without code.");
        LandingPads pads = made(MOST_SITES);
        Check.write(pads, 2, "CALL 0; LOCAL 1; END");
        for (int function : new int[] {0, 1, 2, 4, 5}) {
            for (int what = 0; what < 3; what++) {
                int w = what;
                Check.due("size " + what + " of " + function, 0, () -> pads.size(function, w));
            }
        }
    }

    private static void sizeNoFunctionOrWhat() {
        Check.sentence(6, "Throws IllegalArgumentException when there is no such function or what.");
        LandingPads pads = made(MOST_SITES);
        for (int function : NO_FUNCTIONS) {
            Check.due("function " + function, Check.ARGUMENT, () -> pads.size(function, 0));
        }
        for (int what : new int[] {-1, 3, 4, LEAST, MOST, 256, 65536}) {
            Check.due("what " + what, Check.ARGUMENT, () -> pads.size(3, what));
            Check.due("what " + what + " without code", Check.ARGUMENT, () -> pads.size(0, what));
        }
        Check.due("function 0", 0, () -> pads.size(0, 0));
        Check.due("function 5", 0, () -> pads.size(5, 2));
    }

    private static void codeFirstAndLast() {
        Check.sentence(7, "Throws NoSuchElementException when there is none.");
        for (String text : new String[] {"", "PRINT 9", MOST_ACTIONS, MOST_SITES}) {
            LandingPads pads = made(text);
            int last = pads.size(3, 0) - 1;
            Check.due("the last", 8, () -> pads.code(3, last, 0));
            Check.due("its number", 0, () -> pads.code(3, last, 1));
            for (int p : new int[] {-1, last + 1, last + 2, LEAST, MOST, last + 65536, last + 256, last - 256}) {
                Check.due("place " + p, Check.NO_ELEMENT, () -> pads.code(3, p, 0));
                Check.due("number at " + p, Check.NO_ELEMENT, () -> pads.code(3, p, 1));
            }
            for (int what : new int[] {-1, 2, 3, LEAST, MOST, 256, 65536}) {
                Check.due("what " + what, Check.NO_ELEMENT, () -> pads.code(3, 0, what));
            }
            for (int function : NO_FUNCTIONS) {
                Check.due("function " + function, Check.NO_ELEMENT, () -> pads.code(function, 0, 0));
            }
            Check.due("a function without code", Check.NO_ELEMENT, () -> pads.code(2, 0, 0));
        }
    }

    private static void codeWithoutNumber() {
        Check.sentence(7, "its x or the place to which G goes (1; 0 when it has none)");
        LandingPads pads = made("LOCAL 5; TRY; CALL 4; CATCH 0; RETHROW; PRINT 7; END; END");
        int[] numbers = {4, 8, 0, 7, 0, 8, 0, 0, 5, 12, 5, 0, 0};
        for (int p = 0; p < numbers.length; p++) {
            int place = p;
            Check.due("number " + p, numbers[p], () -> pads.code(3, place, 1));
        }
        Check.same("the code", "C4 G8 R P7 E G8 E U D5 G12 D5 U X", Check.codeOf(pads, 3));
    }

    // Promise 8: action.

    private static void actionFirstAndLast() {
        Check.sentence(8, "Throws NoSuchElementException when there is none.");
        for (String text : new String[] {"", "LOCAL 9; END", MOST_ACTIONS, MOST_SITES}) {
            LandingPads pads = made(text);
            int behind = pads.size(3, 1);
            for (int what = 0; what < 3; what++) {
                int w = what;
                if (behind > 0) {
                    String answer = Check.answerOf(() -> pads.action(3, behind - 1, w));
                    Check.holds("whether the last has " + what, !answer.startsWith("throws."));
                }
                for (int k : new int[] {-1, behind, behind + 1, LEAST, MOST, 65536, 256, -256}) {
                    Check.due("action " + k, Check.NO_ELEMENT, () -> pads.action(3, k, w));
                }
            }
            for (int what : new int[] {-1, 3, 4, LEAST, MOST, 256, 65536}) {
                Check.due("what " + what, Check.NO_ELEMENT, () -> pads.action(3, 0, what));
            }
            for (int function : NO_FUNCTIONS) {
                Check.due("function " + function, Check.NO_ELEMENT, () -> pads.action(function, 0, 0));
            }
            Check.due("a function without code", Check.NO_ELEMENT, () -> pads.action(2, 0, 0));
        }
    }

    private static void actionsOfEachCatch() {
        Check.sentence(8, "one for each CATCH x, in order (filter x, its landing), each with the one behind it as next, the last with NEXT");
        for (int catches = 1; catches <= 18; catches++) {
            LandingPads pads = made("TRY; " + Check.times("CATCH -1", catches - 1) + "; CATCH 0; END");
            int last = catches - 1;
            Check.due("the filter of the last", 0, () -> pads.action(3, last, 0));
            Check.due("its landing", 1 + 4 * last, () -> pads.action(3, last, 1));
            Check.due("its next", -1, () -> pads.action(3, last, 2));
            Check.due("the landing of its END", 3 + 4 * last, () -> pads.action(3, 2 * last + 1, 1));
            for (int k = 0; k < last; k++) {
                int action = k;
                Check.due("the filter of " + k, -1, () -> pads.action(3, action, 0));
                Check.due("the next of " + k, k + 1, () -> pads.action(3, action, 2));
            }
        }
        LandingPads pads = new LandingPads();
        for (int n = 1; n < 8; n++) {
            pads.type(-1);
        }
        Check.make(pads, 3, "TRY; CATCH 7; CATCH 0; CATCH -1; END");
        Check.same("the greatest filter and the least", "7>1>1 0>5>2 -1>9>-1 -2>3>-1 -2>7>-1 -2>11>-1",
                Check.actionsOf(pads, 3));
    }

    private static void actionNextOfOutermost() {
        Check.sentence(8, "NEXT is the HEAD of the row in which the LOCAL or TRY stands.");
        Check.same("a LOCAL in the outermost row", "-2>2>-1", Check.actionsOf(made("LOCAL 0; END"), 3));
        Check.same("a TRY there", "0>1>-1 -2>3>-1", Check.actionsOf(made("TRY; CATCH 0; END"), 3));
        Check.same("a TRY of two", "-1>1>1 0>5>-1 -2>3>-1 -2>7>-1", Check.actionsOf(made("TRY; CATCH -1; CATCH 0; END"), 3));
        Check.same("TRYs beside one another", "0>1>-1 -2>3>-1 0>6>-1 -2>8>-1",
                Check.actionsOf(made("TRY; CATCH 0; END; TRY; CATCH 0; END"), 3));
        Check.same("LOCALs beside one another", "-2>2>-1 -2>6>-1", Check.actionsOf(made("LOCAL 0; END; LOCAL 0; END"), 3));
    }

    private static void actionNextInside() {
        Check.sentence(8, "The head of a row is: the action of its LOCAL; that of its TRY's first CATCH for the row of a TRY;"
                + " for that of a CATCH the one made before it; -1 for the outermost.");
        Check.same("five LOCALs", "-2>18>-1 -2>14>0 -2>10>1 -2>6>2 -2>2>3",
                Check.actionsOf(made(Check.times("LOCAL 1", 5) + "; " + Check.times("END", 5)), 3));
        Check.same("in the row of a TRY of two", "0>5>1 -1>9>-1 -2>2>0 -2>7>-1 -2>11>-1",
                Check.actionsOf(made("TRY; LOCAL 1; END; CATCH 0; CATCH -1; END"), 3));
        Check.same("in the row of the first CATCH", "0>1>1 -1>9>-1 -2>7>-1 -2>3>2 -2>11>-1",
                Check.actionsOf(made("TRY; CATCH 0; LOCAL 1; END; CATCH -1; END"), 3));
        Check.same("in the row of the last CATCH", "0>1>1 -1>5>-1 -2>3>-1 -2>11>-1 -2>7>3",
                Check.actionsOf(made("TRY; CATCH 0; CATCH -1; LOCAL 1; END; END"), 3));
    }

    // Promise 9: site.

    private static void siteFirstAndLast() {
        Check.sentence(9, "Throws NoSuchElementException when there is none.");
        for (String text : new String[] {"", "CALL 1", MOST_ACTIONS, MOST_SITES}) {
            LandingPads pads = made(text);
            int behind = pads.size(3, 2);
            for (int what = 0; what < 3; what++) {
                int w = what;
                if (behind > 0) {
                    String answer = Check.answerOf(() -> pads.site(3, behind - 1, w));
                    Check.holds("whether the last has " + what, !answer.startsWith("throws."));
                }
                for (int k : new int[] {-1, behind, behind + 1, LEAST, MOST, 65536, 256, -256}) {
                    Check.due("site " + k, Check.NO_ELEMENT, () -> pads.site(3, k, w));
                }
            }
            for (int what : new int[] {-1, 3, 4, LEAST, MOST, 256, 65536}) {
                Check.due("what " + what, Check.NO_ELEMENT, () -> pads.site(3, 0, what));
            }
            for (int function : NO_FUNCTIONS) {
                Check.due("function " + function, Check.NO_ELEMENT, () -> pads.site(function, 0, 0));
            }
            Check.due("a function without code", Check.NO_ELEMENT, () -> pads.site(2, 0, 0));
        }
    }

    private static void sitesOfOnePlace() {
        Check.sentence(9, "SITES: the instructions C, T and R in order of their places");
        Check.same("C", "0-0:-1", Check.sitesOf(made("CALL 0"), 3));
        Check.same("T", "1-1:-1", Check.sitesOf(made("PRINT 0; THROW 0"), 3));
        Check.same("R", "1-1:1", Check.sitesOf(made("TRY; CATCH 0; RETHROW; END"), 3));
        Check.same("none of P, G, D, E, U and X", "", Check.sitesOf(made("PRINT 0; TRY; CATCH 0; LOCAL 0; END; END"), 3));
        Check.same("the most", "0-0:-1 1-1:0 2-2:1 3-3:2 4-4:3 5-5:4 10-10:3 15-15:2 20-20:1 25-25:0",
                Check.sitesOf(made(MOST_SITES), 3));
    }

    private static void sitesWithTheSameHead() {
        Check.sentence(9, "those that follow one another with the same head (of the row in which they stand) are one site");
        Check.same("twenty", "0-19:-1", Check.sitesOf(made(Check.times("CALL 0", 20)), 3));
        Check.same("each kind", "1-5:1", Check.sitesOf(made("TRY; CATCH 0; RETHROW; PRINT 0; CALL 1; PRINT 0; THROW 0; END"), 3));
        Check.same("with a block of none between", "0-5:-1", Check.sitesOf(made("CALL 0; LOCAL 1; END; CALL 0"), 3));
        Check.same("with a block of one between", "0-0:-1 1-1:0 6-6:-1",
                Check.sitesOf(made("CALL 0; LOCAL 1; CALL 0; END; CALL 0"), 3));
        Check.same("in two rows of the same depth", "0-0:0 5-5:1",
                Check.sitesOf(made("LOCAL 1; CALL 0; END; LOCAL 1; CALL 0; END"), 3));
        Check.same("in two CATCHes of one TRY", "1-1:2 6-6:3",
                Check.sitesOf(made("TRY; CATCH 0; CALL 0; CATCH 0; CALL 0; END"), 3));
    }

    private static void siteHeads() {
        Check.sentence(9, "The head of a row is: the action of its LOCAL; that of its TRY's first CATCH for the row of a TRY;"
                + " for that of a CATCH the one made before it; -1 for the outermost.");
        Check.same("the outermost", "0-0:-1", Check.sitesOf(made("CALL 0; LOCAL 1; END"), 3));
        Check.same("a TRY of two behind a LOCAL", "4-4:1",
                Check.sitesOf(made("LOCAL 1; END; TRY; CALL 0; CATCH 0; CATCH 0; END"), 3));
        Check.same("a CATCH behind a CATCH with a LOCAL", "9-9:4",
                Check.sitesOf(made("TRY; CATCH 0; LOCAL 1; END; CATCH 0; CALL 0; END"), 3));
    }
}
