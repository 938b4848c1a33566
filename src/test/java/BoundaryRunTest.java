/** The boundary cases of promises 10 to 12, each with the sentence that names it. */
public final class BoundaryRunTest {
    private static final int LEAST = Integer.MIN_VALUE;
    private static final int MOST = Integer.MAX_VALUE;
    private static final int[] NO_FUNCTIONS = {-1, 6, LEAST, LEAST + 5, MOST, -6, 7, 65536, 256, -256};
    private static final String JUMP = "TRY; CATCH 0; END";

    public static void main(String[] args) {
        runEachFunction();
        runNoFunction();
        runWithoutCode();
        typesThatAreOthers();
        numbersPutOut();
        numbersCleaned();
        lastFrame();
        latestCaughtOfFour();
        rethrowLeavesItCaught();
        caughtOfNoOtherFrame();
        caughtOfNoOtherRun();
        handlersOfAll();
        handlerAtTheEdgesOfASite();
        handlerInTheLowestFrame();
        handlerInTheTopFrame();
        handlersInManyFrames();
        noHandler();
        nothingCleanedWithoutHandler();
        framesWithoutActions();
        unwindingGoesOn();

        overInOneStep();
        eightFrames();
        eightFramesAgainAndAgain();
        threeHundredSteps();
        threeHundredStepsFirst();
        threeHundredStepsWhileUnwinding();
        noCodeInEachFrame();
        sixtyNumbersByP();
        sixtyNumbersByD();
        sixtyNumbersWhileUnwinding();
        whatEndsARunIsNotDone();

        countsBefore();
        countsAfterRefusedRuns();
        countsOfTheLatestRun();
        countNotCaught();
        countNoWhat();
        outFirstAndLast();
        outOfTheLatestRun();
        Check.finish("BoundaryRunTest");
    }

    /** Types 1 and 2 in a line below 0, type 3 apart; functions 0, 1, .. with these texts. */
    private static LandingPads pads(String... texts) {
        LandingPads pads = new LandingPads();
        pads.type(0);
        pads.type(1);
        pads.type(-1);
        for (int function = 0; function < texts.length; function++) {
            Check.make(pads, function, texts[function]);
        }
        return pads;
    }

    /** Counts: numbers out, steps, cleaned, handlers found, most frames, not caught. */
    private static void ran(LandingPads pads, int ending, String out, String counts) {
        Check.due("run", ending, () -> pads.run(0));
        Check.same("out", out, Check.outOf(pads));
        Check.same("counts", counts, Check.countsOf(pads));
    }

    /** As ran, for runs whose numbers are looked at by themselves. */
    private static void counted(LandingPads pads, int ending, String counts) {
        Check.due("run", ending, () -> pads.run(0));
        Check.same("counts", counts, Check.countsOf(pads));
    }

    /** An object whose function 0 does n steps without a number out, and then what is said. */
    private static LandingPads after(int n, String then) {
        LandingPads pads = pads("", "", Check.times("PRINT 7", 20), Check.times(JUMP, 6), "", Check.times("CALL 4", 20));
        Check.make(pads, 0, steps(n) + then);
        return pads;
    }

    /** A text of n steps, by calls of 42, 8 and 2 steps and by jumps; see after. */
    private static String steps(int n) {
        int rest = n % 42;
        return Check.times("CALL 5", n / 42) + "; " + Check.times("CALL 3", rest / 8) + "; "
                + Check.times("CALL 4", rest % 8 / 2) + "; " + Check.times(JUMP, rest % 2) + "; ";
    }

    // Promise 10: run.

    private static void runEachFunction() {
        Check.sentence(10, "Runs a function: how that ended.");
        LandingPads pads = pads("PRINT 0", "PRINT 1", "PRINT 2", "PRINT 3", "PRINT 4", "PRINT 5");
        for (int f = 0; f < 6; f++) {
            int function = f;
            Check.due("run of " + f, 0, () -> pads.run(function));
            Check.same("out", Integer.toString(function), Check.outOf(pads));
        }
    }

    private static void runNoFunction() {
        Check.sentence(10, "Throws IllegalArgumentException when there is no such function");
        LandingPads pads = pads("PRINT 1", "", "", "", "", "PRINT 2");
        pads.run(0);
        for (int function : NO_FUNCTIONS) {
            Check.due("run of " + function, Check.ARGUMENT, () -> pads.run(function));
        }
        Check.same("the latest run stays", "1 2 0 0 1 -1", Check.countsOf(pads));
        Check.same("and its number", "1", Check.outOf(pads));
        Check.due("run of 5", 0, () -> pads.run(5));
        Check.same("its number", "2", Check.outOf(pads));
    }

    private static void runWithoutCode() {
        Check.sentence(10, "IllegalStateException when it has no code.");
        LandingPads pads = pads("PRINT 1");
        pads.run(0);
        Check.due("an empty text", Check.STATE, () -> pads.run(1));
        pads.add(1, 0, 3);
        Check.due("a text that was not compiled", Check.STATE, () -> pads.run(1));
        pads.add(1, 5, 0);
        Check.due("a text that is refused", Check.STATE, () -> pads.compile(1));
        Check.due("then still no code", Check.STATE, () -> pads.run(1));
        Check.same("the latest run stays", "1 2 0 0 1 -1", Check.countsOf(pads));
        Check.same("and its number", "1", Check.outOf(pads));
        pads.wipe(1);
        Check.due("the least code", 1, () -> pads.compile(1));
        Check.due("the least run", 0, () -> pads.run(1));
        pads.add(1, 5, 0);
        Check.due("a refused text leaves it", Check.STATE, () -> pads.compile(1));
        Check.due("so it runs", 0, () -> pads.run(1));
    }

    private static void typesThatAreOthers() {
        Check.sentence(10, "A type IS ANOTHER if that is itself, its parent, or its parent's parent, and so on.");
        for (int thrown = 0; thrown < 8; thrown++) {
            for (int filter = 0; filter < 8; filter++) {
                LandingPads pads = new LandingPads();
                // One line of all eight; then 2, 4, 6 below 0 and 3, 5, 7 below 1, in two lines.
                for (int n = 1; n < 8; n++) {
                    pads.type(n - 1);
                }
                Check.make(pads, 0, "TRY; THROW " + thrown + "; CATCH " + filter + "; END");
                Check.due(thrown + " is " + filter + " in one line", thrown >= filter ? 0 : 1, () -> pads.run(0));
                LandingPads two = new LandingPads();
                for (int n = 1; n < 8; n++) {
                    two.type(n - 2);
                }
                Check.make(two, 0, "TRY; THROW " + thrown + "; CATCH " + filter + "; END");
                boolean is = thrown >= filter && (thrown - filter) % 2 == 0;
                Check.due(thrown + " is " + filter + " in two lines", is ? 0 : 1, () -> two.run(0));
            }
        }
    }

    private static void numbersPutOut() {
        Check.sentence(10, "P puts x out.");
        ran(pads("PRINT 0; PRINT 99"), 0, "0 99", "2 3 0 0 1 -1");
    }

    private static void numbersCleaned() {
        Check.sentence(10, "D puts 100 + x out, and one more is CLEANED.");
        ran(pads("LOCAL 0; END; LOCAL 99; END"), 0, "100 199", "2 5 2 0 1 -1");
        ran(pads("TRY; LOCAL 0; LOCAL 99; THROW 0; END; END; CATCH 0; END"), 0, "199 100", "2 8 2 1 1 -1");
    }

    private static void lastFrame() {
        Check.sentence(10, "X takes the frame away; the run is over when it was the last one.");
        ran(pads(""), 0, "", "0 1 0 0 1 -1");
        ran(pads("CALL 1", ""), 0, "", "0 3 0 0 2 -1");
        ran(pads("CALL 1; PRINT 0", "CALL 2; PRINT 1", "CALL 3; PRINT 2", "CALL 4; PRINT 3", "CALL 5; PRINT 4", "PRINT 5"),
                0, "5 4 3 2 1 0", "6 17 0 0 6 -1");
    }

    private static void latestCaughtOfFour() {
        Check.sentence(10, "E takes the latest caught type away.");
        int[] types = {3, 1, 0, 2};
        for (int level = 1; level <= 4; level++) {
            LandingPads pads = pads(fourCatches(types, level));
            Check.due("the run of a RETHROW behind " + (4 - level) + " ENDs", 1, () -> pads.run(0));
            int type = types[level - 1];
            Check.due("the type caught by CATCH " + level, type, () -> pads.count(5));
            Check.due("handlers", 4, () -> pads.count(3));
        }
    }

    /** Four CATCHes in one another, each of its type, with a RETHROW at the end of the row of one. */
    private static String fourCatches(int[] types, int level) {
        StringBuilder text = new StringBuilder();
        for (int type : types) {
            text.append("TRY; THROW ").append(type).append("; CATCH ").append(type).append("; ");
        }
        for (int open = 4; open > 0; open--) {
            text.append(open == level ? "RETHROW; END; " : "END; ");
        }
        return text.toString();
    }

    private static void rethrowLeavesItCaught() {
        Check.sentence(10, "R: one of the latest caught type of the frame (it stays there).");
        ran(pads("TRY; THROW 2; CATCH 0; TRY; RETHROW; CATCH 1; END; TRY; RETHROW; CATCH 2; END; RETHROW; END"),
                1, "", "0 8 0 3 1 2");
        // Five types are caught at once, the most there can be.
        ran(pads("TRY; THROW 0; CATCH 0; TRY; RETHROW; CATCH 0; TRY; RETHROW; CATCH 0; TRY; RETHROW; CATCH 0;"
                + "TRY; RETHROW; CATCH 0; END; END; END; END; END"), 0, "", "0 16 0 5 1 -1");
    }

    private static void caughtOfNoOtherFrame() {
        Check.sentence(10, "each with a function, a place and a stack of CAUGHT types");
        ran(pads("TRY; THROW 1; CATCH 1; CALL 1; RETHROW; END", "TRY; THROW 3; CATCH 3; END"),
                1, "", "0 7 0 2 2 1");
        ran(pads("TRY; CALL 1; CATCH 3; TRY; RETHROW; CATCH 3; PRINT 5; END; END", "TRY; THROW 1; CATCH 1; THROW 3; END"),
                0, "5", "1 12 0 3 2 -1");
    }

    private static void caughtOfNoOtherRun() {
        Check.sentence(10, "each with a function, a place and a stack of CAUGHT types");
        // Each of these runs ends inside a CATCH, more often than there is room for caught types.
        LandingPads pads = pads("TRY; THROW 1; CATCH 1; RETHROW; END");
        for (int i = 0; i < 12; i++) {
            ran(pads, 1, "", "0 2 0 1 1 1");
        }
        Check.make(pads, 0, "TRY; THROW 3; CATCH 3; RETHROW; END");
        ran(pads, 1, "", "0 2 0 1 1 3");
    }

    private static void handlersOfAll() {
        Check.sentence(10, "up to an action whose filter is -1, or a type that the exception's type is: that is the HANDLER");
        for (int type = 0; type < 4; type++) {
            ran(pads("TRY; THROW " + type + "; CATCH -1; PRINT 1; END"), 0, "1", "1 5 0 1 1 -1");
        }
        ran(pads("TRY; THROW 0; CATCH 1; PRINT 1; CATCH 2; PRINT 2; CATCH 3; PRINT 3; CATCH 0; PRINT 4; CATCH -1; PRINT 5; END"),
                0, "4", "1 5 0 1 1 -1");
        String many = "TRY; THROW 0; " + Check.times("CATCH 1", 16) + "; ";
        ran(pads(many + "CATCH 0; END"), 0, "", "0 4 0 1 1 -1");
        ran(pads(many + "CATCH 2; END"), 1, "", "0 1 0 0 1 0");
    }

    private static void handlerAtTheEdgesOfASite() {
        Check.sentence(10, "the head of the site in which that place is, then next by next");
        // A site of one place between two others, and the first and the last place of a site of three.
        ran(pads("PRINT 1; THROW 0; TRY; THROW 0; CATCH 0; END"), 1, "1", "1 2 0 0 1 0");
        ran(pads("TRY; CALL 1; CATCH 0; PRINT 2; END; CALL 1; PRINT 9", "THROW 0"), 1, "2", "1 7 0 1 2 0");
        for (int place = 0; place < 3; place++) {
            String[] calls = {"CALL 2", "CALL 2", "CALL 2"};
            calls[place] = "CALL 1";
            ran(pads("TRY; " + String.join("; ", calls) + "; CATCH 3; PRINT 4; END", "THROW 3", ""),
                    0, "4", "1 " + (6 + 2 * place) + " 0 1 2 -1");
        }
    }

    private static void handlerInTheLowestFrame() {
        Check.sentence(10, "Behind the last action of a frame, the frame is taken away.");
        ran(pads("TRY; LOCAL 0; CALL 1; END; CATCH 0; PRINT 9; END; PRINT 8", "LOCAL 1; CALL 2; END; PRINT 7",
                "LOCAL 2; CALL 3; END; PRINT 7", "LOCAL 3; CALL 4; END; PRINT 7", "LOCAL 4; CALL 5; END; PRINT 7",
                "LOCAL 5; THROW 2; END; PRINT 7"),
                0, "105 104 103 102 101 100 9 8", "8 23 6 1 6 -1");
    }

    private static void handlerInTheTopFrame() {
        Check.sentence(10, "RAISED: phase one: from the top frame on down");
        ran(pads("TRY; CALL 1; PRINT 3; CATCH -1; PRINT 9; END", "TRY; THROW 0; CATCH -1; PRINT 1; END; PRINT 2"),
                0, "1 2 3", "3 10 0 1 2 -1");
    }

    private static void handlersInManyFrames() {
        Check.sentence(10, "which goes on at its landing: unwinding is over");
        String again = "; CATCH -1; RETHROW; END";
        ran(pads("TRY; CALL 1; CATCH 2; PRINT 6; END", "TRY; CALL 2" + again, "TRY; CALL 3" + again, "TRY; CALL 4" + again,
                "TRY; CALL 5" + again, "TRY; THROW 2" + again), 0, "6", "1 25 0 6 6 -1");
    }

    private static void noHandler() {
        Check.sentence(10, "If there is none in any frame, the run ends with 1; nothing is cleaned.");
        ran(pads("THROW 0"), 1, "", "0 1 0 0 1 0");
        ran(pads("TRY; CALL 1; CATCH 1; END", "TRY; CALL 2; CATCH 2; END", "TRY; THROW 0; CATCH 3; END"),
                1, "", "0 3 0 0 3 0");
    }

    private static void nothingCleanedWithoutHandler() {
        Check.sentence(10, "If there is none in any frame, the run ends with 1; nothing is cleaned.");
        ran(pads(Check.times("LOCAL 1", 5) + "; THROW 3; " + Check.times("END", 5)), 1, "", "0 1 0 0 1 3");
        ran(pads("LOCAL 1; CALL 1; END", "TRY; LOCAL 2; THROW 3; END; CATCH 0; END"), 1, "", "0 2 0 0 2 3");
        // A handler beside the way, or behind it, is none.
        ran(pads("TRY; CATCH -1; END; LOCAL 1; THROW 0; END; TRY; CATCH -1; END"), 1, "", "0 2 0 0 1 0");
    }

    private static void framesWithoutActions() {
        Check.sentence(10, "Behind the last action of a frame, the frame is taken away.");
        ran(pads("TRY; CALL 1; CATCH 0; END; PRINT 1", "CALL 2; PRINT 9", "CALL 3; PRINT 9", "CALL 4; PRINT 9",
                "CALL 5; PRINT 9", "THROW 1; PRINT 9"), 0, "1", "1 10 0 1 6 -1");
    }

    private static void unwindingGoesOn() {
        Check.sentence(10, "U: UNWINDING goes on behind the action that led here.");
        // To the handler at once, to the last action of its frame and behind it, and past a CATCH that is left.
        ran(pads("TRY; LOCAL 1; THROW 0; END; CATCH 0; END"), 0, "101", "1 6 1 1 1 -1");
        ran(pads("TRY; CALL 1; CATCH 0; END", "LOCAL 1; LOCAL 2; THROW 0; END; END"), 0, "102 101", "2 9 2 1 2 -1");
        ran(pads("TRY; LOCAL 1; TRY; THROW 3; CATCH 0; END; END; CATCH 3; END"), 0, "101", "1 6 1 1 1 -1");
        ran(pads("TRY; LOCAL 1; TRY; THROW 0; CATCH 0; LOCAL 2; THROW 3; END; END; END; CATCH 3; END"),
                0, "102 101", "2 11 2 2 1 -1");
    }

    // Promise 10 still: how a run ends.

    private static void overInOneStep() {
        Check.sentence(10, "A RUN of a function ends: 0 over");
        ran(pads(""), 0, "", "0 1 0 0 1 -1");
    }

    private static void eightFrames() {
        Check.sentence(10, "2 a C when there are 8 frames");
        ran(pads("PRINT 1; CALL 0"), 2, "1 1 1 1 1 1 1 1", "8 16 0 0 8 -1");
        ran(pads("CALL 0"), 2, "", "0 8 0 0 8 -1");
        ran(pads("CALL 1", "CALL 2", "CALL 3", "CALL 4", "CALL 5", "CALL 0"), 2, "", "0 8 0 0 8 -1");
        // In the eighth frame all but C is done: it ends there by its numbers.
        counted(pads("CALL 1", Check.times("PRINT 3", 9) + "; CALL 1"), 5, "60 68 0 0 8 -1");
        // It is no exception, so that nothing catches it and nothing is cleaned.
        ran(pads("TRY; LOCAL 1; CALL 0; END; CATCH -1; PRINT 9; END"), 2, "", "0 8 0 0 8 -1");
    }

    private static void eightFramesAgainAndAgain() {
        Check.sentence(10, "THE MACHINE has FRAMES, at most 8");
        // Frames that are gone, by X or by unwinding, make room for others.
        LandingPads pads = pads(Check.times("CALL 1", 10), "CALL 2", "CALL 3", "CALL 4", "CALL 5", "");
        counted(pads, 0, "0 101 0 0 6 -1");
        Check.make(pads, 0, Check.times("TRY; CALL 1; CATCH 0; END", 5));
        Check.make(pads, 5, "THROW 0");
        counted(pads, 0, "0 41 0 5 6 -1");
        Check.make(pads, 0, "CALL 0");
        for (int i = 0; i < 10; i++) {
            counted(pads, 2, "0 8 0 0 8 -1");
        }
        Check.make(pads, 0, "");
        counted(pads, 0, "0 1 0 0 1 -1");
    }

    private static void threeHundredSteps() {
        Check.sentence(10, "3 a step after the 300th");
        for (int n : new int[] {1, 41, 42, 43, 298}) {
            int frames = n >= 42 ? 3 : n >= 2 ? 2 : 1;
            counted(after(n, ""), 0, "0 " + (n + 1) + " 0 0 " + frames + " -1");
        }
        counted(after(299, ""), 0, "0 300 0 0 3 -1");
        counted(after(300, ""), 3, "0 300 0 0 3 -1");
        counted(after(301, ""), 3, "0 300 0 0 3 -1");
        ran(after(298, "PRINT 1"), 0, "1", "1 300 0 0 3 -1");
        ran(after(299, "PRINT 1"), 3, "1", "1 300 0 0 3 -1");
        ran(after(300, "PRINT 1"), 3, "", "0 300 0 0 3 -1");
    }

    private static void threeHundredStepsFirst() {
        Check.sentence(10, "(3 is looked at first, 4 before 2; what ends it is not done, but counted as a step, except for 3.)");
        counted(after(299, "THROW 3"), 1, "0 300 0 0 3 3");
        counted(after(300, "THROW 3"), 3, "0 300 0 0 3 -1");
        LandingPads deep = after(285, "CALL 1");
        Check.make(deep, 1, JUMP + "; CALL 1");
        counted(deep, 2, "0 300 0 0 8 -1");
        Check.make(deep, 0, steps(286) + "CALL 1");
        counted(deep, 3, "0 300 0 0 8 -1");
        // Function 1 writes 20 numbers here, and function 2 has no code.
        for (int n = 0; n < 2; n++) {
            LandingPads pads = new LandingPads();
            Check.make(pads, 1, Check.times("PRINT 7", 20));
            Check.make(pads, 3, Check.times(JUMP, 6));
            Check.make(pads, 4, "");
            Check.make(pads, 5, Check.times("CALL 4", 20));
            Check.make(pads, 0, steps(299 + n) + "CALL 2");
            counted(pads, n == 0 ? 4 : 3, "0 300 0 0 3 -1");
            Check.make(pads, 0, "CALL 1; CALL 1; CALL 1; " + steps(233 + n) + "PRINT 8");
            counted(pads, n == 0 ? 5 : 3, "60 300 0 0 3 -1");
            Check.make(pads, 0, "CALL 1; CALL 1; CALL 1; " + steps(233 + n) + "LOCAL 8; END");
            counted(pads, n == 0 ? 5 : 3, "60 300 0 0 3 -1");
        }
    }

    private static void threeHundredStepsWhileUnwinding() {
        Check.sentence(10, "3 a step after the 300th");
        String then = "TRY; LOCAL 4; THROW 0; END; CATCH 0; END";
        // T, D, U, E, G and X: one step fewer is done each time.
        ran(after(294, then), 0, "104", "1 300 1 1 3 -1");
        ran(after(295, then), 3, "104", "1 300 1 1 3 -1");
        ran(after(298, then), 3, "104", "1 300 1 1 3 -1");
        ran(after(299, then), 3, "", "0 300 0 1 3 -1");
        ran(after(300, then), 3, "", "0 300 0 0 3 -1");
        // What was left of it is nothing to the next run.
        LandingPads pads = after(298, then);
        pads.run(0);
        Check.make(pads, 0, "TRY; LOCAL 5; THROW 0; END; CATCH 0; PRINT 6; END");
        ran(pads, 0, "105 6", "2 7 1 1 1 -1");
    }

    private static void noCodeInEachFrame() {
        Check.sentence(10, "4 a C of a function without code");
        for (int last = 0; last < 5; last++) {
            String[] texts = new String[last + 1];
            for (int f = 0; f <= last; f++) {
                texts[f] = "PRINT " + f + "; CALL " + (f + 1);
            }
            LandingPads pads = pads(texts);
            counted(pads, 4, (last + 1) + " " + (2 * last + 2) + " 0 0 " + (last + 1) + " -1");
            int called = last + 1;
            Check.due("the least code", 1, () -> pads.compile(called));
            counted(pads, 0, (last + 1) + " " + (3 * last + 4) + " 0 0 " + (last + 2) + " -1");
        }
        ran(pads("TRY; LOCAL 1; CALL 1; END; CATCH -1; PRINT 9; END"), 4, "", "0 1 0 0 1 -1");
    }

    private static void sixtyNumbersByP() {
        Check.sentence(10, "5 a P or D when 60 numbers are out.");
        LandingPads pads = pads("", Check.times("PRINT 6", 20), Check.times("PRINT 7", 19));
        Check.make(pads, 0, "CALL 1; CALL 1; CALL 2");
        counted(pads, 0, "59 66 0 0 2 -1");
        Check.due("no sixtieth yet", Check.NO_ELEMENT, () -> pads.out(59));
        Check.make(pads, 0, "CALL 1; CALL 1; CALL 2; PRINT 8");
        counted(pads, 0, "60 67 0 0 2 -1");
        Check.due("the sixtieth", 8, () -> pads.out(59));
        Check.make(pads, 0, "CALL 1; CALL 1; CALL 2; PRINT 8; PRINT 9");
        counted(pads, 5, "60 67 0 0 2 -1");
        Check.due("the sixtieth", 8, () -> pads.out(59));
        Check.due("none behind it", Check.NO_ELEMENT, () -> pads.out(60));
        // All but P and D is still done when 60 numbers are out.
        Check.make(pads, 0, "CALL 1; CALL 1; CALL 1; TRY; THROW 0; CATCH 0; END; CALL 2; PRINT 9");
        Check.make(pads, 2, "");
        counted(pads, 5, "60 72 0 1 2 -1");
        Check.due("the sixtieth", 6, () -> pads.out(59));
        Check.due("none behind it", Check.NO_ELEMENT, () -> pads.out(60));
    }

    private static void sixtyNumbersByD() {
        Check.sentence(10, "5 a P or D when 60 numbers are out.");
        LandingPads pads = pads("", Check.times("PRINT 6", 20), Check.times("PRINT 6", 19));
        Check.make(pads, 0, "CALL 1; CALL 1; CALL 2; LOCAL 5; END");
        counted(pads, 0, "60 68 1 0 2 -1");
        Check.due("the sixtieth", 105, () -> pads.out(59));
        Check.make(pads, 0, "CALL 1; CALL 1; CALL 1; LOCAL 5; END");
        counted(pads, 5, "60 67 0 0 2 -1");
        Check.due("the sixtieth", 6, () -> pads.out(59));
        Check.due("none behind it", Check.NO_ELEMENT, () -> pads.out(60));
    }

    private static void sixtyNumbersWhileUnwinding() {
        Check.sentence(10, "5 a P or D when 60 numbers are out.");
        LandingPads pads = pads("", Check.times("PRINT 6", 20), Check.times("PRINT 6", 19));
        Check.make(pads, 0, "CALL 1; CALL 1; CALL 2; TRY; LOCAL 5; THROW 0; END; CATCH 0; END");
        counted(pads, 0, "60 71 1 1 2 -1");
        Check.make(pads, 0, "CALL 1; CALL 1; CALL 1; TRY; LOCAL 5; THROW 0; END; CATCH 0; END");
        counted(pads, 5, "60 68 0 1 2 -1");
        Check.make(pads, 0, "TRY; LOCAL 5; THROW 0; END; CATCH 0; PRINT 1; END");
        ran(pads, 0, "105 1", "2 7 1 1 1 -1");
    }

    private static void whatEndsARunIsNotDone() {
        Check.sentence(10, "what ends it is not done, but counted as a step, except for 3.");
        ran(pads("THROW 2; PRINT 1"), 1, "", "0 1 0 0 1 2");
        ran(pads("CALL 5; PRINT 1"), 4, "", "0 1 0 0 1 -1");
        ran(pads("CALL 0; PRINT 1"), 2, "", "0 8 0 0 8 -1");
        // A RETHROW that is not caught leaves its type caught and its frame there: only the counts tell.
        ran(pads("TRY; THROW 2; CATCH 0; LOCAL 1; RETHROW; END; END"), 1, "", "0 2 0 1 1 2");
    }

    // Promise 11: count.

    private static void countsBefore() {
        Check.sentence(11, "0 (-1 for 5) before.");
        LandingPads pads = new LandingPads();
        Check.same("counts of a new object", "0 0 0 0 0 -1", Check.countsOf(pads));
        Check.make(pads, 0, "PRINT 1");
        Check.same("counts with code", "0 0 0 0 0 -1", Check.countsOf(pads));
    }

    private static void countsAfterRefusedRuns() {
        Check.sentence(11, "0 (-1 for 5) before.");
        LandingPads pads = new LandingPads();
        Check.due("run of no function", Check.ARGUMENT, () -> pads.run(6));
        Check.due("run without code", Check.STATE, () -> pads.run(0));
        Check.same("counts", "0 0 0 0 0 -1", Check.countsOf(pads));
        Check.due("out", Check.NO_ELEMENT, () -> pads.out(0));
    }

    private static void countsOfTheLatestRun() {
        Check.sentence(11, "Of the latest run:");
        LandingPads pads = pads("TRY; LOCAL 1; CALL 1; END; CATCH 0; RETHROW; END", "PRINT 3; THROW 1", "");
        ran(pads, 1, "3 101", "2 6 1 1 2 1");
        Check.due("the least run", 0, () -> pads.run(2));
        Check.same("nothing of the one before is left", "0 1 0 0 1 -1", Check.countsOf(pads));
        Check.due("no number either", Check.NO_ELEMENT, () -> pads.out(0));
        ran(pads, 1, "3 101", "2 6 1 1 2 1");
        Check.due("another text", 1, () -> Check.make(pads, 0, ""));
        Check.due("a refused run", Check.STATE, () -> pads.run(3));
        pads.type(0);
        Check.same("other calls change nothing", "2 6 1 1 2 1", Check.countsOf(pads));
        Check.same("nor the numbers", "3 101", Check.outOf(pads));
    }

    private static void countNotCaught() {
        Check.sentence(11, "5 the type that was not caught (-1 when there is none)");
        LandingPads pads = new LandingPads();
        for (int n = 1; n < 8; n++) {
            pads.type(n - 1);
        }
        for (int t = 0; t < 8; t++) {
            int type = t;
            Check.make(pads, 0, "THROW " + type);
            Check.due("run", 1, () -> pads.run(0));
            Check.due("not caught", type, () -> pads.count(5));
            Check.make(pads, 0, "TRY; THROW " + type + "; CATCH 0; END");
            Check.due("run", 0, () -> pads.run(0));
            Check.due("caught", -1, () -> pads.count(5));
        }
    }

    private static void countNoWhat() {
        Check.sentence(11, "Throws IllegalArgumentException for another what.");
        LandingPads pads = pads("PRINT 4");
        for (int i = 0; i < 2; i++) {
            for (int what : new int[] {-1, 6, 7, LEAST, MOST, 256, 65536}) {
                Check.due("count of " + what, Check.ARGUMENT, () -> pads.count(what));
            }
            Check.due("run", 0, () -> pads.run(0));
        }
        Check.due("the least", 1, () -> pads.count(0));
        Check.due("the greatest", -1, () -> pads.count(5));
    }

    // Promise 12: out.

    private static void outFirstAndLast() {
        Check.sentence(12, "Throws NoSuchElementException when there is none.");
        LandingPads pads = pads("", Check.times("PRINT 2", 20));
        for (int n : new int[] {0, 1, 2, 19, 20, 40, 60}) {
            int calls = n / 20;
            Check.make(pads, 0, Check.times("CALL 1", calls) + "; " + Check.times("PRINT 3", n % 20));
            Check.due("run", 0, () -> pads.run(0));
            if (n > 0) {
                Check.due("the first of " + n, calls > 0 ? 2 : 3, () -> pads.out(0));
                Check.due("the last of " + n, n % 20 > 0 ? 3 : 2, () -> pads.out(n - 1));
            }
            for (int k : new int[] {-1, n, n + 1, 60, 61, LEAST, MOST, 65536, 256, -256}) {
                Check.due("number " + k + " of " + n, Check.NO_ELEMENT, () -> pads.out(k));
            }
        }
    }

    private static void outOfTheLatestRun() {
        Check.sentence(12, "Number k that the latest run put out.");
        LandingPads pads = pads("PRINT 1; PRINT 2; PRINT 3", "PRINT 4", "THROW 0");
        ran(pads, 0, "1 2 3", "3 4 0 0 1 -1");
        Check.due("a shorter run", 0, () -> pads.run(1));
        Check.due("its number", 4, () -> pads.out(0));
        Check.due("no number of the one before", Check.NO_ELEMENT, () -> pads.out(1));
        Check.due("a run without numbers", 1, () -> pads.run(2));
        Check.due("none", Check.NO_ELEMENT, () -> pads.out(0));
    }
}
