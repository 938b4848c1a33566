/** Promises 5 to 9: compile, size, code, action, site. */
public final class CompileTest {
    public static void main(String[] args) {
        simpleStatements();
        localBlock();
        tryWithCatches();
        nestedBlocks();
        actionsInOrderOfTheirMaking();
        sitesJoinAcrossOtherInstructions();
        longestCode();
        wellFormedTexts();
        depthOfRows();
        refusedTextLeavesOldCode();
        newCodeReplacesOld();
        wrongArguments();
        Check.finish("CompileTest");
    }

    private static void tables(String text, String code, String actions, String sites) {
        LandingPads pads = new LandingPads();
        pads.type(0);
        pads.type(-1);
        int made = Check.make(pads, 3, text);
        Check.same("code of " + text, code, Check.codeOf(pads, 3));
        Check.same("actions of " + text, actions, Check.actionsOf(pads, 3));
        Check.same("sites of " + text, sites, Check.sitesOf(pads, 3));
        Check.due("size of " + text, made, () -> pads.size(3, 0));
        Check.due("instruction behind", Check.NO_ELEMENT, () -> pads.code(3, made, 0));
        Check.due("action behind", Check.NO_ELEMENT, () -> pads.action(3, pads.size(3, 1), 0));
        Check.due("site behind", Check.NO_ELEMENT, () -> pads.site(3, pads.size(3, 2), 0));
    }

    private static void simpleStatements() {
        tables("", "X", "", "");
        tables("PRINT 0", "P0 X", "", "");
        tables("PRINT 99; CALL 5; THROW 2", "P99 C5 T2 X", "", "1-2:-1");
    }

    private static void localBlock() {
        tables("LOCAL 7; END", "D7 G4 D7 U X", "-2>2>-1", "");
        tables("LOCAL 7; CALL 1; PRINT 2; END; PRINT 3",
                "C1 P2 D7 G6 D7 U P3 X", "-2>4>-1", "0-0:0");
    }

    private static void tryWithCatches() {
        tables("TRY; CATCH 0; END", "G5 E G5 E U X", "0>1>-1 -2>3>-1", "");
        tables("TRY; CALL 1; CATCH 2; PRINT 4; RETHROW; CATCH -1; CALL 2; CATCH 1; END; THROW 1",
                "C1 G17 P4 R E G17 E U C2 E G17 E U E G17 E U T1 X",
                "2>2>1 -1>8>2 1>13>-1 -2>6>-1 -2>11>-1 -2>15>-1",
                "0-0:0 3-3:3 8-8:4 17-17:-1");
    }

    private static void nestedBlocks() {
        tables("LOCAL 1; TRY; LOCAL 2; CALL 0; END; CATCH 0; LOCAL 3; RETHROW; END; END; CALL 4; END",
                "C0 D2 G5 D2 U G15 R D3 G11 D3 U E G15 E U C4 D1 G20 D1 U X",
                "-2>18>-1 0>6>0 -2>3>1 -2>13>0 -2>9>3",
                "0-0:2 6-6:4 15-15:0");
        tables("TRY; TRY; THROW 0; CATCH 1; THROW 1; END; CATCH 2; END",
                "T0 G7 T1 E G7 E U G12 E G12 E U X",
                "2>8>-1 1>2>0 -2>5>0 -2>10>-1",
                "0-0:1 2-2:2");
    }

    private static void actionsInOrderOfTheirMaking() {
        tables("TRY; LOCAL 1; END; CATCH 0; LOCAL 2; END; CATCH 1; LOCAL 3; END; END; LOCAL 4; END",
                "D1 G4 D1 U G21 D2 G9 D2 U E G21 E U D3 G17 D3 U E G21 E U D4 G25 D4 U X",
                "0>5>1 1>13>-1 -2>2>0 -2>11>-1 -2>7>3 -2>19>-1 -2>15>5 -2>23>-1", "");
    }

    private static void sitesJoinAcrossOtherInstructions() {
        tables("CALL 1; PRINT 1; LOCAL 2; END; CALL 2; LOCAL 3; CALL 3; END; CALL 4",
                "C1 P1 D2 G6 D2 U C2 C3 D3 G12 D3 U C4 X",
                "-2>4>-1 -2>10>-1", "0-6:-1 7-7:1 12-12:-1");
        tables("LOCAL 1; CALL 1; END; LOCAL 1; CALL 1; END",
                "C1 D1 G5 D1 U C1 D1 G10 D1 U X", "-2>3>-1 -2>8>-1", "0-0:0 5-5:1");
    }

    private static void longestCode() {
        LandingPads pads = new LandingPads();
        pads.add(0, 3, 0);
        for (int i = 0; i < 18; i++) {
            pads.add(0, 4, -1);
        }
        pads.add(0, 5, 0);
        Check.due("18 catches", 74, () -> pads.compile(0));
        Check.due("their actions", 36, () -> pads.size(0, 1));
        for (int k = 0; k < 36; k++) {
            int action = k;
            int number = k % 18;
            Check.due("filter", k < 18 ? -1 : -2, () -> pads.action(0, action, 0));
            Check.due("landing", 1 + 4 * number + (k < 18 ? 0 : 2), () -> pads.action(0, action, 1));
            Check.due("next", k < 17 ? k + 1 : -1, () -> pads.action(0, action, 2));
        }
        Check.due("the first G", 73, () -> pads.code(0, 0, 1));
        Check.due("the last G", 73, () -> pads.code(0, 70, 1));
    }

    private static void formed(boolean well, String text) {
        LandingPads pads = new LandingPads();
        Check.write(pads, 0, text);
        String answer = Check.answerOf(() -> pads.compile(0));
        Check.same("whether well formed: " + text, well ? "false" : "true",
                Boolean.toString(answer.equals(Check.STATE)));
    }

    private static void wellFormedTexts() {
        formed(true, "TRY; CATCH 0; RETHROW; END");
        formed(true, "TRY; CATCH 0; LOCAL 1; RETHROW; END; END");
        formed(true, "TRY; CATCH 0; TRY; RETHROW; CATCH 0; END; END");
        formed(true, "TRY; CATCH -1; CATCH -1; CATCH 0; END");
        formed(false, "RETHROW");
        formed(false, "LOCAL 1; RETHROW; END");
        formed(false, "TRY; RETHROW; CATCH 0; END");
        formed(false, "TRY; CATCH 0; END; RETHROW");
        formed(false, "TRY; CATCH 0; TRY; CATCH 0; END; END; LOCAL 1; RETHROW; END");
        formed(false, "TRY");
        formed(false, "TRY; END");
        formed(false, "TRY; CATCH 0");
        formed(false, "CATCH 0");
        formed(false, "CATCH 0; END");
        formed(false, "LOCAL 1; CATCH 0; END");
        formed(false, "TRY; LOCAL 1; CATCH 0; END; END");
        formed(false, "TRY; CATCH 0; LOCAL 1; CATCH 0; END; END");
        formed(false, "LOCAL 1");
        formed(false, "END");
        formed(false, "PRINT 1; END");
        formed(false, "LOCAL 1; END; END");
        formed(false, "END; LOCAL 1; END");
    }

    private static void depthOfRows() {
        String five = "LOCAL 1; LOCAL 2; LOCAL 3; LOCAL 4; LOCAL 5; ";
        String ends = "; END; END; END; END; END";
        formed(true, five + "PRINT 1" + ends);
        formed(false, five + "LOCAL 6; END" + ends);
        formed(false, five + "LOCAL 6" + ends);
        formed(false, five + "TRY; CATCH 0; END" + ends);
        formed(true, "LOCAL 1; LOCAL 2; LOCAL 3; LOCAL 4; TRY; CATCH 0; CATCH 0; END; LOCAL 5; END; END; END; END; END");
        formed(false, "LOCAL 1; LOCAL 2; LOCAL 3; LOCAL 4; TRY; CATCH 0; LOCAL 5; END; END; END; END; END; END");
        formed(true, "TRY; CATCH 0; TRY; CATCH 0; TRY; CATCH 0; TRY; CATCH 0; TRY; CATCH 0; RETHROW; END; END; END; END; END");
        formed(false, "TRY; TRY; TRY; TRY; TRY; TRY; CATCH 0; END; CATCH 0; END; CATCH 0; END; CATCH 0; END; CATCH 0; END; CATCH 0; END");
    }

    private static void refusedTextLeavesOldCode() {
        LandingPads pads = new LandingPads();
        Check.make(pads, 0, "TRY; THROW 0; CATCH 0; PRINT 1; END");
        Check.write(pads, 0, "LOCAL 1; CALL 0");
        Check.due("not well formed", Check.STATE, () -> pads.compile(0));
        Check.same("the old code", "T0 G7 P1 E G7 E U X", Check.codeOf(pads, 0));
        Check.same("the old actions", "0>2>-1 -2>5>-1", Check.actionsOf(pads, 0));
        Check.same("the old sites", "0-0:0", Check.sitesOf(pads, 0));
        Check.due("the old run", 0, () -> pads.run(0));
        Check.due("the text goes on", 8, () -> pads.add(0, 5, 0));
        Check.due("well formed", 13, () -> pads.compile(0));
    }

    private static void newCodeReplacesOld() {
        LandingPads pads = new LandingPads();
        Check.make(pads, 2, "TRY; THROW 0; CATCH 0; PRINT 1; END");
        Check.due("shorter code", 2, () -> Check.make(pads, 2, "PRINT 5"));
        Check.same("it", "P5 X", Check.codeOf(pads, 2));
        Check.due("no actions", 0, () -> pads.size(2, 1));
        Check.due("no sites", 0, () -> pads.size(2, 2));
        Check.due("an action of before", Check.NO_ELEMENT, () -> pads.action(2, 0, 0));
        Check.due("a site of before", Check.NO_ELEMENT, () -> pads.site(2, 0, 0));
        Check.due("an instruction of before", Check.NO_ELEMENT, () -> pads.code(2, 2, 0));
        Check.due("the text alone changes no code", 2, () -> pads.add(2, 0, 1));
        Check.due("as it was", 2, () -> pads.size(2, 0));
        Check.due("compiled twice", 3, () -> pads.compile(2) * 0 + pads.compile(2));
    }

    private static void wrongArguments() {
        LandingPads pads = new LandingPads();
        for (int f = 0; f < 6; f++) {
            Check.make(pads, f, "LOCAL 1; CALL 0; END");
        }
        for (int wrong : new int[] {-1, 6, Integer.MIN_VALUE, Integer.MAX_VALUE}) {
            Check.due("compile", Check.ARGUMENT, () -> pads.compile(wrong));
            Check.due("size", Check.ARGUMENT, () -> pads.size(wrong, 0));
            Check.due("size what", Check.ARGUMENT, () -> pads.size(0, wrong));
            Check.due("code", Check.NO_ELEMENT, () -> pads.code(wrong, 0, 0));
            Check.due("code what", Check.NO_ELEMENT, () -> pads.code(0, 0, wrong));
            Check.due("action", Check.NO_ELEMENT, () -> pads.action(wrong, 0, 0));
            Check.due("action what", Check.NO_ELEMENT, () -> pads.action(0, 0, wrong));
            Check.due("site", Check.NO_ELEMENT, () -> pads.site(wrong, 0, 0));
            Check.due("site what", Check.NO_ELEMENT, () -> pads.site(0, 0, wrong));
        }
        for (int wrong : new int[] {-1, Integer.MIN_VALUE, Integer.MAX_VALUE}) {
            Check.due("code p", Check.NO_ELEMENT, () -> pads.code(0, wrong, 0));
            Check.due("action k", Check.NO_ELEMENT, () -> pads.action(0, wrong, 0));
            Check.due("site k", Check.NO_ELEMENT, () -> pads.site(0, wrong, 0));
        }
        Check.due("size 3", Check.ARGUMENT, () -> pads.size(0, 3));
        Check.due("code what 2", Check.NO_ELEMENT, () -> pads.code(0, 0, 2));
        Check.due("action what 3", Check.NO_ELEMENT, () -> pads.action(0, 0, 3));
        Check.due("site what 3", Check.NO_ELEMENT, () -> pads.site(0, 0, 3));
    }
}
