/** Promises 10 to 12: run, count, out. */
public final class RunTest {
    public static void main(String[] args) {
        straightCode();
        caughtInItsFrame();
        catchesInOrder();
        typesAndTheirParents();
        longestLine();
        notCaughtCleansNothing();
        unwindingThroughFrames();
        handlerBetweenCleanups();
        recursionFindsTheRightFrame();
        rethrow();
        throwInsideCatch();
        caughtOfEachFrame();
        tooDeep();
        noCode();
        deepAndBack();
        threeHundredSteps();
        sixtyNumbers();
        sixtyNumbersCleaning();
        latestRunStays();
        runAfterAnEndInTheMiddle();
        wrongArguments();
        Check.finish("RunTest");
    }

    private static LandingPads pads(String... texts) {
        LandingPads pads = new LandingPads();
        pads.type(0);
        pads.type(1);
        pads.type(-1);
        for (int function = 0; function < texts.length; function++) {
            Check.make(pads, function, texts[function]);
        }
        return pads;
    }

    /** Counts: numbers out, steps, cleaned, handlers found, most frames, not caught. */
    private static void ran(LandingPads pads, int function, int ending, String out, String counts) {
        Check.due("run", ending, () -> pads.run(function));
        Check.same("out", out, Check.outOf(pads));
        Check.same("counts", counts, Check.countsOf(pads));
        Check.due("out behind", Check.NO_ELEMENT, () -> pads.out(pads.count(0)));
    }

    private static void straightCode() {
        ran(pads(""), 0, 0, "", "0 1 0 0 1 -1");
        ran(pads("PRINT 5; LOCAL 6; PRINT 0; END; PRINT 99"), 0, 0, "5 0 106 99", "4 6 1 0 1 -1");
        ran(pads("CALL 1; PRINT 1; CALL 1", "PRINT 2"), 0, 0, "2 1 2", "3 8 0 0 2 -1");
    }

    private static void caughtInItsFrame() {
        ran(pads("TRY; THROW 0; PRINT 1; CATCH 0; PRINT 2; END; PRINT 3"), 0, 0, "2 3", "2 6 0 1 1 -1");
        ran(pads("TRY; PRINT 1; CATCH 0; PRINT 2; END; PRINT 3"), 0, 0, "1 3", "2 4 0 0 1 -1");
    }

    private static void catchesInOrder() {
        ran(pads("TRY; THROW 0; CATCH 3; PRINT 1; CATCH -1; PRINT 2; CATCH 0; PRINT 3; END"),
                0, 0, "2", "1 5 0 1 1 -1");
        ran(pads("TRY; THROW 0; CATCH 0; PRINT 1; CATCH 0; PRINT 2; END"), 0, 0, "1", "1 5 0 1 1 -1");
    }

    private static void typesAndTheirParents() {
        boolean[][] is = {
            {true, false, false, false},
            {true, true, false, false},
            {true, true, true, false},
            {false, false, false, true},
        };
        for (int thrown = 0; thrown < 4; thrown++) {
            for (int filter = 0; filter < 4; filter++) {
                LandingPads pads = pads("TRY; THROW " + thrown + "; CATCH " + filter + "; END");
                Check.due(thrown + " caught by " + filter, is[thrown][filter] ? 0 : 1, () -> pads.run(0));
                Check.due("type not caught", is[thrown][filter] ? -1 : thrown, () -> pads.count(5));
            }
        }
    }

    private static void longestLine() {
        LandingPads pads = new LandingPads();
        for (int parent = 0; parent < 7; parent++) {
            pads.type(parent);
        }
        Check.make(pads, 0, "TRY; THROW 7; CATCH 0; PRINT 1; END");
        ran(pads, 0, 0, "1", "1 5 0 1 1 -1");
        Check.make(pads, 0, "TRY; THROW 6; CATCH 7; PRINT 1; END");
        ran(pads, 0, 1, "", "0 1 0 0 1 6");
    }

    private static void notCaughtCleansNothing() {
        ran(pads("LOCAL 1; PRINT 2; CALL 1; END", "LOCAL 3; THROW 2; END"),
                0, 1, "2", "1 3 0 0 2 2");
        ran(pads("TRY; LOCAL 1; THROW 3; END; CATCH 0; PRINT 9; END"), 0, 1, "", "0 1 0 0 1 3");
    }

    private static void unwindingThroughFrames() {
        ran(pads("TRY; LOCAL 1; CALL 1; END; CATCH 0; PRINT 4; END; PRINT 5",
                "LOCAL 2; LOCAL 3; CALL 2; END; PRINT 9; END", "PRINT 6; THROW 1"),
                0, 0, "6 103 102 101 4 5", "6 15 3 1 3 -1");
    }

    private static void handlerBetweenCleanups() {
        ran(pads("LOCAL 1; TRY; LOCAL 2; THROW 0; END; CATCH -1; PRINT 3; END; END"),
                0, 0, "102 3 101", "3 9 2 1 1 -1");
    }

    private static void recursionFindsTheRightFrame() {
        LandingPads pads = pads("TRY; CALL 1; CATCH 3; PRINT 1; END; PRINT 2",
                "TRY; CALL 2; CATCH 0; PRINT 3; THROW 3; END", "LOCAL 4; CALL 3; END", "TRY; THROW 0; CATCH 3; END");
        ran(pads, 0, 0, "104 3 1 2", "4 15 1 2 4 -1");
    }

    private static void rethrow() {
        ran(pads("TRY; TRY; THROW 2; CATCH 1; PRINT 1; RETHROW; END; CATCH 2; PRINT 2; END"),
                0, 0, "1 2", "2 9 0 2 1 -1");
        ran(pads("TRY; THROW 2; CATCH 0; PRINT 1; RETHROW; END"), 0, 1, "1", "1 3 0 1 1 2");
        ran(pads("TRY; THROW 2; CATCH 0; TRY; RETHROW; CATCH 2; PRINT 1; END; LOCAL 7; RETHROW; END; END"),
                0, 1, "1", "1 6 0 2 1 2");
    }

    private static void throwInsideCatch() {
        // The second exception leaves the catch by its end, so that the type 0 is forgotten.
        ran(pads("TRY; TRY; THROW 0; CATCH 0; THROW 3; END; CATCH 3; TRY; RETHROW; CATCH 3; PRINT 8; END; END"),
                0, 0, "8", "1 11 0 3 1 -1");
        // A catch does not catch what comes out of a catch of the same TRY.
        ran(pads("TRY; THROW 0; CATCH 0; THROW 3; CATCH 3; PRINT 1; END"), 0, 1, "", "0 2 0 1 1 3");
    }

    private static void caughtOfEachFrame() {
        ran(pads("TRY; THROW 0; CATCH 0; CALL 1; TRY; RETHROW; CATCH 3; PRINT 1; CATCH 0; PRINT 2; END; END",
                "TRY; THROW 3; CATCH 3; PRINT 3; END"), 0, 0, "3 2", "2 14 0 3 2 -1");
        // The latest of two caught types goes first; the older one is there again behind.
        ran(pads("TRY; THROW 0; CATCH 0; TRY; THROW 3; CATCH 3; TRY; RETHROW; CATCH 3; PRINT 1; END; END;"
                + "TRY; RETHROW; CATCH 3; PRINT 2; CATCH 0; PRINT 3; END; END"), 0, 0, "1 3", "2 15 0 4 1 -1");
    }

    private static void tooDeep() {
        ran(pads("PRINT 1; CALL 0"), 0, 2, "1 1 1 1 1 1 1 1", "8 16 0 0 8 -1");
        ran(pads("CALL 1; PRINT 3", "CALL 2", "CALL 3", "CALL 4", "CALL 5", "CALL 5"),
                0, 2, "", "0 8 0 0 8 -1");
    }

    private static void noCode() {
        LandingPads pads = pads("PRINT 1; CALL 4; PRINT 2");
        ran(pads, 0, 4, "1", "1 2 0 0 1 -1");
        pads.add(4, 0, 7);
        ran(pads, 0, 4, "1", "1 2 0 0 1 -1");
        pads.compile(4);
        ran(pads, 0, 0, "1 7 2", "3 6 0 0 2 -1");
        pads.wipe(4);
        ran(pads, 0, 0, "1 7 2", "3 6 0 0 2 -1");
        // A missing function is no exception: nothing catches it.
        ran(pads("TRY; CALL 5; CATCH -1; PRINT 1; END"), 0, 4, "", "0 1 0 0 1 -1");
    }

    private static void deepAndBack() {
        ran(pads("CALL 1", "CALL 2", "CALL 3", "CALL 4; CALL 5", "PRINT 1"), 0, 4, "1", "1 7 0 0 5 -1");
        // Frames that are unwound make room: eight are there only at the end.
        ran(pads("TRY; CALL 1; CATCH 0; END; CALL 0", "CALL 2", "THROW 0"),
                0, 2, "", "0 38 0 6 8 -1");
    }

    private static void threeHundredSteps() {
        // Jumps put nothing out, so that a run of them gets to 300 steps.
        String sixJumps = Check.times("TRY; CATCH 0; END", 6);
        LandingPads pads = pads(sixJumps, Check.times("CALL 0", 6));
        ran(pads, 0, 0, "", "0 7 0 0 1 -1");
        ran(pads, 1, 0, "", "0 49 0 0 2 -1");
        // 5 * (1 + 49) + 6 * (1 + 7) = 298 steps, then what follows and X.
        String before = Check.times("CALL 1", 5) + "; " + Check.times("CALL 0", 6) + "; ";
        Check.make(pads, 3, before + "TRY; CATCH 0; END");
        ran(pads, 3, 0, "", "0 300 0 0 3 -1");
        Check.make(pads, 3, before + "PRINT 7; PRINT 8");
        ran(pads, 3, 3, "7 8", "2 300 0 0 3 -1");
        // The 301st step would end the run otherwise too: 3 is looked at first.
        Check.make(pads, 3, before + "PRINT 7; PRINT 8; CALL 5");
        ran(pads, 3, 3, "7 8", "2 300 0 0 3 -1");
        Check.make(pads, 3, before + "PRINT 7; PRINT 8; THROW 0");
        ran(pads, 3, 3, "7 8", "2 300 0 0 3 -1");
        // As the 300th step it ends the run by itself, and is counted.
        Check.make(pads, 3, before + "PRINT 7; CALL 5");
        ran(pads, 3, 4, "7", "1 300 0 0 3 -1");
        Check.make(pads, 3, before + "PRINT 7; THROW 0");
        ran(pads, 3, 1, "7", "1 300 0 0 3 0");
    }

    private static void sixtyNumbers() {
        LandingPads pads = pads(Check.times("PRINT 1", 20), "CALL 0; CALL 0; CALL 0", "CALL 1; PRINT 2");
        Check.due("just sixty", 0, () -> pads.run(1));
        Check.same("counts", "60 67 0 0 2 -1", Check.countsOf(pads));
        Check.due("the last", 1, () -> pads.out(59));
        Check.due("one more", 5, () -> pads.run(2));
        Check.same("counts", "60 69 0 0 3 -1", Check.countsOf(pads));
        Check.due("the last", 1, () -> pads.out(59));
        Check.due("none behind", Check.NO_ELEMENT, () -> pads.out(60));
    }

    private static void sixtyNumbersCleaning() {
        LandingPads pads = pads(Check.times("PRINT 1", 20),
                "TRY; LOCAL 4; LOCAL 5; CALL 0; CALL 0; CALL 2; THROW 0; END; END; CATCH 0; END",
                Check.times("PRINT 2", 19));
        Check.due("the second D", 5, () -> pads.run(1));
        Check.same("counts", "60 69 1 1 2 -1", Check.countsOf(pads));
        Check.due("the first D", 105, () -> pads.out(59));
    }

    private static void latestRunStays() {
        LandingPads pads = pads("TRY; LOCAL 3; THROW 0; END; CATCH 0; PRINT 8; END");
        ran(pads, 0, 0, "103 8", "2 7 1 1 1 -1");
        Check.due("no such function", Check.ARGUMENT, () -> pads.run(6));
        Check.due("no code", Check.STATE, () -> pads.run(1));
        Check.make(pads, 0, "PRINT 1");
        pads.wipe(0);
        Check.same("out", "103 8", Check.outOf(pads));
        Check.same("counts", "2 7 1 1 1 -1", Check.countsOf(pads));
        ran(pads, 0, 0, "1", "1 2 0 0 1 -1");
    }

    private static void runAfterAnEndInTheMiddle() {
        LandingPads pads = pads("TRY; THROW 2; CATCH 0; CALL 5; END", "TRY; THROW 3; CATCH -1; RETHROW; END", "PRINT 6");
        ran(pads, 0, 4, "", "0 2 0 1 1 -1");
        ran(pads, 1, 1, "", "0 2 0 1 1 3");
        ran(pads, 2, 0, "6", "1 2 0 0 1 -1");
        // What was caught when a run ended is not there in the next one.
        for (int i = 0; i < 9; i++) {
            ran(pads, 0, 4, "", "0 2 0 1 1 -1");
        }
        ran(pads, 1, 1, "", "0 2 0 1 1 3");
        Check.make(pads, 3, "CALL 2");
        ran(pads, 3, 0, "6", "1 4 0 0 2 -1");
        ran(pads, 2, 0, "6", "1 2 0 0 1 -1");
    }

    private static void wrongArguments() {
        LandingPads pads = pads("PRINT 4");
        pads.run(0);
        for (int wrong : new int[] {-1, 6, Integer.MIN_VALUE, Integer.MAX_VALUE}) {
            Check.due("run", Check.ARGUMENT, () -> pads.run(wrong));
            Check.due("count", Check.ARGUMENT, () -> pads.count(wrong));
            Check.due("out", Check.NO_ELEMENT, () -> pads.out(wrong));
        }
        Check.due("the only number", 4, () -> pads.out(0));
        Check.due("none behind", Check.NO_ELEMENT, () -> pads.out(1));
    }
}
