/** The document from its first line: the ordinary sentences that no boundary test leans on. */
public final class SentenceTest {
    public static void main(String[] args) {
        searchedFirstThenCleanedUp();
        textsByNumbers();
        placesInOrder();
        actionsOfLocals();
        actionsOfCatches();
        sitesHaveThreeParts();

        partsOfInstructions();
        partsOfActions();
        partsOfSites();
        compileMakesAllThree();

        latestFrameOnTop();
        stepsGoToTheNextPlace();
        callsMakeFrames();
        jumpsGoToTheirPlace();
        throwsRaise();
        placesOfTheFrames();
        handlerInThatFrameAlone();
        unwindingActionByAction();
        notCaught();
        countsByNumber();
        Check.finish("SentenceTest");
    }

    /** Type 1 below 0, type 2 apart; functions 0, 1, .. with these texts. */
    private static LandingPads pads(String... texts) {
        LandingPads pads = new LandingPads();
        pads.type(0);
        pads.type(-1);
        for (int function = 0; function < texts.length; function++) {
            Check.make(pads, function, texts[function]);
        }
        return pads;
    }

    /** Counts: numbers out, steps, cleaned, handlers found, most frames, not caught. */
    private static void ran(LandingPads pads, int ending, String out, String counts) {
        Check.due("run", ending, () -> pads.run(0));
        Check.same("out", out, Check.outOf(pads));
        Check.same("counts", counts, Check.countsOf(pads));
    }

    private static void searchedFirstThenCleanedUp() {
        Check.sentence(10, "a machine whose exceptions are found by these tables in two phases:"
                + " first a handler is searched, up through all frames, then everything on the way to it is cleaned up.");
        String middle = "LOCAL 5; CALL 2; END";
        String lowest = "LOCAL 6; THROW 1; END";
        ran(pads("TRY; CALL 1; CATCH 1; PRINT 9; END", middle, lowest), 0, "106 105 9", "3 11 2 1 3 -1");
        // Were it cleaned up before the search is over, 106 and 105 would be out here too.
        ran(pads("TRY; CALL 1; CATCH 2; PRINT 9; END", middle, lowest), 1, "", "0 3 0 0 3 1");
    }

    private static void textsByNumbers() {
        Check.sentence(3, "0 PRINT x (0 .. 99), 1 CALL x (a function), 2 THROW x (a type), 3 TRY,"
                + " 4 CATCH x (a type, or -1 for all), 5 END, 6 LOCAL x (0 .. 99), 7 RETHROW.");
        LandingPads pads = new LandingPads();
        int[][] text = {{3, 0}, {1, 5}, {4, 0}, {7, 0}, {4, -1}, {6, 99}, {0, 98}, {5, 0}, {2, 0}, {5, 0}};
        for (int i = 0; i < text.length; i++) {
            int[] statement = text[i];
            Check.due("statement " + i, i + 1, () -> pads.add(2, statement[0], statement[1]));
        }
        Check.due("compile", 18, () -> pads.compile(2));
        Check.same("code", "C5 G17 R E G17 E U P98 D99 G12 D99 U T0 E G17 E U X", Check.codeOf(pads, 2));
    }

    private static void placesInOrder() {
        Check.sentence(7, "CODE is made of a row, instruction by instruction, each with a PLACE (0, 1, ..):"
                + " PRINT x, CALL x, THROW x, RETHROW: P x, C x, T x, R.");
        LandingPads pads = pads("PRINT 3; CALL 4; THROW 1; PRINT 0; TRY; CATCH 2; RETHROW; END");
        Check.same("code", "P3 C4 T1 P0 G10 R E G10 E U X", Check.codeOf(pads, 0));
    }

    private static void actionsOfLocals() {
        Check.sentence(8, "ACTIONS are numbered 0, 1, .. as they are made: at LOCAL, before its row:"
                + " one (filter -2, its landing, NEXT).");
        LandingPads pads = pads("LOCAL 1; LOCAL 2; PRINT 0; END; LOCAL 3; END; END; LOCAL 4; END");
        Check.same("code", "P0 D2 G5 D2 U D3 G9 D3 U D1 G13 D1 U D4 G17 D4 U X", Check.codeOf(pads, 0));
        Check.same("actions", "-2>11>-1 -2>3>0 -2>7>0 -2>15>-1", Check.actionsOf(pads, 0));
    }

    private static void actionsOfCatches() {
        Check.sentence(8, "then, for each CATCH, before its row: one (filter -2, the landing of its END, NEXT).");
        // The LOCAL in the row of the TRY comes before the actions of the CATCHes' own rows.
        LandingPads pads = pads("TRY; LOCAL 1; END; CATCH 2; LOCAL 2; END; CATCH -1; PRINT 7; END");
        Check.same("code", "D1 G4 D1 U G18 D2 G9 D2 U E G18 E U P7 E G18 E U X", Check.codeOf(pads, 0));
        Check.same("actions", "2>5>1 -1>13>-1 -2>2>0 -2>11>-1 -2>7>3 -2>16>-1", Check.actionsOf(pads, 0));
    }

    private static void sitesHaveThreeParts() {
        Check.sentence(9, "are one site: the first and the last place, and the head.");
        LandingPads pads = pads("CALL 1; PRINT 1; THROW 0; LOCAL 1; PRINT 2; CALL 2; PRINT 3; THROW 1; END; CALL 3");
        Check.same("code", "C1 P1 T0 P2 C2 P3 T1 D1 G11 D1 U C3 X", Check.codeOf(pads, 0));
        Check.same("sites", "0-2:-1 4-6:0 11-11:-1", Check.sitesOf(pads, 0));
    }

    private static void partsOfInstructions() {
        Check.sentence(7, "Instruction p of a function: its letter's number (what 0),"
                + " its x or the place to which G goes (1; 0 when it has none).");
        LandingPads pads = pads("", "LOCAL 8; THROW 1; END");
        int[][] parts = {{2, 1}, {5, 8}, {4, 5}, {5, 8}, {7, 0}, {8, 0}};
        for (int i = 0; i < parts.length; i++) {
            int p = i;
            Check.due("letter at " + p, parts[p][0], () -> pads.code(1, p, 0));
            Check.due("number at " + p, parts[p][1], () -> pads.code(1, p, 1));
        }
    }

    private static void partsOfActions() {
        Check.sentence(8, "Action k of a function: 0 filter, 1 landing, 2 next.");
        LandingPads pads = pads("", "LOCAL 8; TRY; CATCH 1; CATCH 2; END; END");
        int[][] parts = {{-2, 11, -1}, {1, 1, 2}, {2, 5, 0}, {-2, 3, 0}, {-2, 7, 0}};
        for (int i = 0; i < parts.length; i++) {
            for (int j = 0; j < 3; j++) {
                int k = i;
                int what = j;
                Check.due("action " + k + ", part " + what, parts[k][what], () -> pads.action(1, k, what));
            }
        }
    }

    private static void partsOfSites() {
        Check.sentence(9, "Site k of a function: 0 its first place, 1 its last, 2 its head.");
        LandingPads pads = pads("", "PRINT 1; CALL 1; CALL 2; LOCAL 0; CALL 3; CALL 4; CALL 5; END");
        int[][] parts = {{1, 2, -1}, {3, 5, 0}};
        for (int i = 0; i < parts.length; i++) {
            for (int j = 0; j < 3; j++) {
                int k = i;
                int what = j;
                Check.due("site " + k + ", part " + what, parts[k][what], () -> pads.site(1, k, what));
            }
        }
    }

    private static void compileMakesAllThree() {
        Check.sentence(5, "Makes code, actions and sites of the text of a function");
        LandingPads pads = pads();
        Check.write(pads, 4, "TRY; CALL 1; CATCH 0; END");
        Check.same("before", "", Check.codeOf(pads, 4) + Check.actionsOf(pads, 4) + Check.sitesOf(pads, 4));
        Check.due("compile", 7, () -> pads.compile(4));
        Check.same("code", "C1 G6 E G6 E U X", Check.codeOf(pads, 4));
        Check.same("actions", "0>2>-1 -2>4>-1", Check.actionsOf(pads, 4));
        Check.same("sites", "0-0:0", Check.sitesOf(pads, 4));
        for (int function = 0; function < 6; function++) {
            Check.same("code of " + function + " is there", Boolean.toString(function == 4),
                    Boolean.toString(pads.size(function, 0) > 0));
        }
    }

    private static void latestFrameOnTop() {
        Check.sentence(10, "THE MACHINE has FRAMES, at most 8, the latest on top,"
                + " each with a function, a place and a stack of CAUGHT types.");
        ran(pads("PRINT 1; CALL 1; PRINT 5", "PRINT 2; CALL 2; PRINT 4", "PRINT 3"), 0, "1 2 3 4 5", "5 10 0 0 3 -1");
    }

    private static void stepsGoToTheNextPlace() {
        Check.sentence(10, "A STEP does the instruction of the top frame at its place, that becomes the next one");
        ran(pads("PRINT 10; PRINT 20; PRINT 30"), 0, "10 20 30", "3 4 0 0 1 -1");
        ran(pads("CALL 1; PRINT 1; CALL 1; PRINT 2", "PRINT 7"), 0, "7 1 7 2", "4 9 0 0 2 -1");
    }

    private static void callsMakeFrames() {
        Check.sentence(10, "C makes a frame of function x.");
        ran(pads("CALL 1; CALL 3; CALL 2", "PRINT 11", "PRINT 12", "PRINT 13"), 0, "11 13 12", "3 10 0 0 2 -1");
    }

    private static void jumpsGoToTheirPlace() {
        Check.sentence(10, "G goes to its place.");
        // Over the CATCH's row, and over the landing of the LOCAL.
        ran(pads("TRY; PRINT 1; CATCH -1; PRINT 2; END; LOCAL 3; END; PRINT 4"), 0, "1 103 4", "3 6 1 0 1 -1");
    }

    private static void throwsRaise() {
        Check.sentence(10, "T: an exception of type x is RAISED");
        for (int x = 0; x < 3; x++) {
            String text = "TRY; THROW " + x + "; PRINT 9; CATCH 1; PRINT 1; CATCH 0; PRINT 0; CATCH 2; PRINT 2; END";
            ran(pads(text), 0, Integer.toString(x), "1 5 0 1 1 -1");
        }
    }

    private static void placesOfTheFrames() {
        Check.sentence(10, "from the top frame on down, with the place of the instruction that it is at (the T, R, or a C)");
        String thrower = "THROW 0";
        ran(pads("TRY; CALL 1; CATCH 0; PRINT 1; END; TRY; CALL 1; CATCH 0; PRINT 2; END", thrower),
                0, "1 2", "2 11 0 2 2 -1");
        // An R in the CATCH's row is not in the row of its TRY.
        ran(pads("TRY; TRY; THROW 0; CATCH 0; PRINT 1; RETHROW; END; CATCH 0; PRINT 2; END"),
                0, "1 2", "2 9 0 2 1 -1");
        ran(pads("TRY; CALL 1; CATCH 0; PRINT 1; CALL 1; END", thrower), 1, "1", "1 5 0 1 2 0");
    }

    private static void handlerInThatFrameAlone() {
        Check.sentence(10, "that is the HANDLER, in that frame.");
        // Action 0 is the handler in the lower frame; in the upper one it catches another type.
        ran(pads("TRY; CALL 1; CATCH 0; PRINT 1; END", "TRY; THROW 0; CATCH 2; PRINT 2; END"),
                0, "1", "1 6 0 1 2 -1");
    }

    private static void unwindingActionByAction() {
        Check.sentence(10, "Phase two, UNWINDING: from the top frame on: action by action as before;"
                + " one with filter -2: its frame goes on at its landing, until U;"
                + " the handler: the type is put on the caught ones of its frame,"
                + " which goes on at its landing: unwinding is over.");
        ran(pads("TRY; LOCAL 1; TRY; LOCAL 2; THROW 1; END; CATCH 2; PRINT 8; END; END; CATCH 0; PRINT 3; END; PRINT 4"),
                0, "102 101 3 4", "4 10 2 1 1 -1");
        // Type 1 was caught as a type 0: raised again, it is type 1 still.
        ran(pads("TRY; TRY; THROW 1; CATCH 0; RETHROW; END; CATCH 1; PRINT 1; CATCH 0; PRINT 0; END"),
                0, "1", "1 8 0 2 1 -1");
    }

    private static void notCaught() {
        Check.sentence(10, "A RUN of a function ends: 0 over; 1 not caught;");
        ran(pads("PRINT 1; THROW 2; PRINT 2"), 1, "1", "1 2 0 0 1 2");
        ran(pads("PRINT 1; PRINT 2"), 0, "1 2", "2 3 0 0 1 -1");
    }

    private static void countsByNumber() {
        Check.sentence(11, "Of the latest run: 0 how many numbers came out, 1 how many steps, 2 how many were cleaned,"
                + " 3 how often a handler was found, 4 the greatest number of frames,"
                + " 5 the type that was not caught (-1 when there is none)");
        LandingPads pads = pads("CALL 1; LOCAL 1; TRY; CALL 2; CATCH 0; END; END; PRINT 4; PRINT 5; THROW 2",
                "CALL 2", "LOCAL 9; CALL 3; END", "TRY; THROW 1; CATCH 0; END; LOCAL 8; END");
        Check.due("run", 1, () -> pads.run(0));
        int[] want = {7, 30, 5, 2, 4, 2};
        for (int i = 0; i < want.length; i++) {
            int what = i;
            Check.due("count " + what, want[what], () -> pads.count(what));
        }
    }
}
