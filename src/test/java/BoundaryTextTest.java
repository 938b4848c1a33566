/** The boundary cases of promises 1 to 4, each with the sentence that names it. */
public final class BoundaryTextTest {
    private static final int LEAST = Integer.MIN_VALUE;
    private static final int MOST = Integer.MAX_VALUE;
    // Also the numbers that a wrap-around of 32, 16 or 8 bits would take for 0 or -1.
    private static final int[] NO_FUNCTIONS = {-1, 6, LEAST, LEAST + 5, MOST, -6, 7, 65536, 256, -256};
    private static final int[] FAR = {LEAST, LEAST + 1, MOST, MOST - 1, 65535, 65536, 255, 256, -255, -256};

    public static void main(String[] args) {
        newType();
        newTypeHasNoParent();
        newTexts();
        newCode();
        newRun();
        lastCallOfAll();

        typeNumbers();
        parentsMadeBefore();
        parentsThatAreNone();
        wrongParents();
        eightTypes();
        eightTypesAndWrongParent();

        addAnswers();
        addNoFunction();
        addNoStatement();
        addNumbers();
        addFunctions();
        addTypes();
        addZero();
        twentyStatements();
        twentyStatementsAndWrongOnes();

        wipeEmptyToFull();
        wipeLeavesCode();
        wipeLeavesNoCode();
        wipeNoFunction();
        Check.finish("BoundaryTextTest");
    }

    // Promise 1: a new object.

    private static void newType() {
        Check.sentence(1, "Type 0, empty texts, no code, no run.");
        LandingPads pads = new LandingPads();
        Check.due("throw of type 0", 1, () -> pads.add(0, 2, 0));
        Check.due("throw of type 1", Check.ARGUMENT, () -> pads.add(0, 2, 1));
        Check.due("catch of type 0", 2, () -> pads.add(0, 4, 0));
        Check.due("catch of type 1", Check.ARGUMENT, () -> pads.add(0, 4, 1));
        Check.due("the first type made", 1, () -> pads.type(0));
    }

    private static void newTypeHasNoParent() {
        Check.sentence(1, "(type 0 is there at first, without one)");
        LandingPads pads = new LandingPads();
        for (int i = 0; i < 7; i++) {
            pads.type(i % 2 == 0 ? 0 : -1);
        }
        for (int filter = 1; filter < 8; filter++) {
            Check.make(pads, 0, "TRY; THROW 0; CATCH " + filter + "; END");
            Check.due("type 0 is not " + filter, 1, () -> pads.run(0));
        }
    }

    private static void newTexts() {
        Check.sentence(1, "Type 0, empty texts, no code, no run.");
        LandingPads pads = new LandingPads();
        for (int f = 0; f < 6; f++) {
            int function = f;
            Check.due("code of an empty text", 1, () -> pads.compile(function));
            Check.due("its first statement", 1, () -> pads.add(function, 0, 0));
        }
    }

    private static void newCode() {
        Check.sentence(1, "Type 0, empty texts, no code, no run.");
        LandingPads pads = new LandingPads();
        for (int f = 0; f < 6; f++) {
            int function = f;
            for (int what = 0; what < 3; what++) {
                int w = what;
                Check.due("size", 0, () -> pads.size(function, w));
            }
            for (int k = -1; k < 2; k++) {
                int place = k;
                Check.due("code", Check.NO_ELEMENT, () -> pads.code(function, place, 0));
                Check.due("action", Check.NO_ELEMENT, () -> pads.action(function, place, 0));
                Check.due("site", Check.NO_ELEMENT, () -> pads.site(function, place, 0));
            }
            Check.due("run", Check.STATE, () -> pads.run(function));
        }
    }

    private static void newRun() {
        Check.sentence(1, "Type 0, empty texts, no code, no run.");
        LandingPads pads = new LandingPads();
        Check.same("counts", "0 0 0 0 0 -1", Check.countsOf(pads));
        for (int k : new int[] {-1, 0, 1, 59, 60, LEAST, MOST}) {
            Check.due("out", Check.NO_ELEMENT, () -> pads.out(k));
        }
    }

    private static void lastCallOfAll() {
        Check.sentence(1, "An object is used for at most 512 calls after it has been made");
        LandingPads pads = new LandingPads();
        // 3 calls, 254 times 2 calls, and the 512th.
        Check.make(pads, 0, "PRINT 7");
        for (int i = 0; i < 254; i++) {
            Check.due("run", 0, () -> pads.run(0));
            Check.due("out", 7, () -> pads.out(0));
        }
        Check.due("the 512th call", 0, () -> pads.run(0));
    }

    // Promise 2: type.

    private static void typeNumbers() {
        Check.sentence(2, "Makes a type: its number.");
        Check.sentence(2, "TYPES of exceptions have numbers 0, 1, .., at most 8");
        LandingPads pads = new LandingPads();
        for (int n = 1; n <= 7; n++) {
            int number = n;
            Check.due("throw before it is made", Check.ARGUMENT, () -> pads.add(0, 2, number));
            Check.due("type", number, () -> pads.type(-1));
            Check.due("throw when it is made", number, () -> pads.add(0, 2, number));
        }
        Check.due("throw of type 8", Check.ARGUMENT, () -> pads.add(0, 2, 8));
    }

    private static void parentsMadeBefore() {
        Check.sentence(2, "each has a PARENT, a type made before, or none");
        LandingPads first = new LandingPads();
        LandingPads latest = new LandingPads();
        for (int n = 1; n <= 7; n++) {
            int number = n;
            Check.due("the first type as parent", number, () -> first.type(0));
            Check.due("the latest type as parent", number, () -> latest.type(number - 1));
        }
        Check.make(first, 0, "TRY; THROW 7; CATCH 6; CATCH 0; END; TRY; THROW 1; CATCH 0; END");
        Check.due("each is 0", 0, () -> first.run(0));
        Check.make(latest, 0, "TRY; THROW 7; CATCH 0; END; TRY; THROW 7; CATCH 6; END");
        Check.due("the latest is 0 and 6", 0, () -> latest.run(0));
    }

    private static void parentsThatAreNone() {
        Check.sentence(2, "each has a PARENT, a type made before, or none");
        LandingPads pads = new LandingPads();
        for (int n = 1; n <= 7; n++) {
            int number = n;
            Check.due("none as parent", number, () -> pads.type(-1));
        }
        for (int n = 0; n < 7; n++) {
            int filter = n;
            Check.make(pads, 0, "TRY; THROW 7; CATCH " + filter + "; END");
            Check.due("type 7 is not " + filter, 1, () -> pads.run(0));
        }
    }

    private static void wrongParents() {
        Check.sentence(2, "Throws IllegalArgumentException when parent is neither -1 nor a type");
        LandingPads pads = new LandingPads();
        for (int n = 1; n <= 7; n++) {
            int number = n;
            Check.due("parent -2", Check.ARGUMENT, () -> pads.type(-2));
            Check.due("itself as parent", Check.ARGUMENT, () -> pads.type(number));
            Check.due("the one behind as parent", Check.ARGUMENT, () -> pads.type(number + 1));
            for (int parent : FAR) {
                Check.due("parent " + parent, Check.ARGUMENT, () -> pads.type(parent));
            }
            Check.due("nothing was made before", number, () -> pads.type(number - 1));
        }
    }

    private static void eightTypes() {
        Check.sentence(2, "IllegalStateException when there are 8.");
        LandingPads pads = new LandingPads();
        for (int n = 1; n <= 6; n++) {
            pads.type(n - 1);
        }
        Check.due("the eighth", 7, () -> pads.type(-1));
        for (int parent = -1; parent <= 7; parent++) {
            int p = parent;
            Check.due("the ninth, of " + parent, Check.STATE, () -> pads.type(p));
        }
        Check.due("the ninth is not there", Check.ARGUMENT, () -> pads.add(0, 2, 8));
        Check.make(pads, 0, "TRY; THROW 6; CATCH 7; CATCH 0; END");
        Check.due("the parents of 6 stay", 0, () -> pads.run(0));
        Check.make(pads, 0, "TRY; THROW 7; CATCH 6; CATCH 0; END");
        Check.due("7 stays without one", 1, () -> pads.run(0));
    }

    private static void eightTypesAndWrongParent() {
        Check.sentence(2, "Throws IllegalArgumentException when parent is neither -1 nor a type");
        LandingPads pads = new LandingPads();
        for (int n = 1; n <= 7; n++) {
            pads.type(-1);
        }
        for (int parent : new int[] {-2, 8, 9, LEAST, MOST}) {
            Check.due("parent " + parent + " when there are 8", Check.ARGUMENT, () -> pads.type(parent));
        }
    }

    // Promise 3: add.

    private static void addAnswers() {
        Check.sentence(3, "Puts a statement behind the text of a function: how many there are then.");
        LandingPads pads = new LandingPads();
        for (int n = 1; n <= 20; n++) {
            for (int f = 0; f < 6; f++) {
                int function = f;
                int x = n;
                Check.due("statement " + n + " of function " + f, n, () -> pads.add(function, 0, 10 * function + x));
            }
        }
        for (int f = 0; f < 6; f++) {
            int function = f;
            pads.compile(function);
            Check.due("its first", 10 * function + 1, () -> pads.code(function, 0, 1));
            Check.due("its last", 10 * function + 20, () -> pads.code(function, 19, 1));
        }
    }

    private static void addNoFunction() {
        Check.sentence(3, "Throws IllegalArgumentException when there is no such function or statement");
        LandingPads pads = new LandingPads();
        for (int function : NO_FUNCTIONS) {
            Check.due("function " + function, Check.ARGUMENT, () -> pads.add(function, 0, 0));
        }
        for (int f = 0; f < 6; f++) {
            int function = f;
            Check.due("function " + f + " is still empty", 1, () -> pads.add(function, 0, 0));
        }
    }

    private static void addNoStatement() {
        Check.sentence(3, "Throws IllegalArgumentException when there is no such function or statement");
        LandingPads pads = new LandingPads();
        for (int statement : new int[] {-1, 8, 9, -2, LEAST, MOST, 256, 65536}) {
            Check.due("statement " + statement, Check.ARGUMENT, () -> pads.add(5, statement, 0));
        }
        Check.due("the least, on a text that is still empty", 1, () -> pads.add(5, 0, 0));
        Check.due("the greatest", 2, () -> pads.add(5, 7, 0));
    }

    private static void addNumbers() {
        Check.sentence(3, "0 PRINT x (0 .. 99)");
        numbersOf(0, "P0 P99 X");
        Check.sentence(3, "6 LOCAL x (0 .. 99)");
        numbersOf(6, "D99 G4 D99 U D0 G8 D0 U X");
    }

    private static void numbersOf(int statement, String code) {
        LandingPads pads = new LandingPads();
        for (int x : new int[] {-1, 100, 101, LEAST, MOST, -100, 256, 65536}) {
            Check.due("x " + x, Check.ARGUMENT, () -> pads.add(0, statement, x));
        }
        Check.due("x 0", 1, () -> pads.add(0, statement, 0));
        Check.due("x -1 behind it", Check.ARGUMENT, () -> pads.add(0, statement, -1));
        Check.due("x 99", 2, () -> pads.add(0, statement, 99));
        Check.due("x 100 behind it", Check.ARGUMENT, () -> pads.add(0, statement, 100));
        if (statement == 6) {
            Check.write(pads, 0, "END; END");
        }
        pads.compile(0);
        Check.same("only what was taken", code, Check.codeOf(pads, 0));
    }

    private static void addFunctions() {
        Check.sentence(3, "1 CALL x (a function)");
        LandingPads pads = new LandingPads();
        for (int x : NO_FUNCTIONS) {
            Check.due("x " + x, Check.ARGUMENT, () -> pads.add(3, 1, x));
        }
        for (int x = 0; x < 6; x++) {
            int function = x;
            Check.due("x " + x, x + 1, () -> pads.add(3, 1, function));
        }
        pads.compile(3);
        Check.same("only what was taken", "C0 C1 C2 C3 C4 C5 X", Check.codeOf(pads, 3));
    }

    private static void addTypes() {
        LandingPads pads = new LandingPads();
        for (int n = 1; n <= 8; n++) {
            int types = n;
            Check.sentence(3, "2 THROW x (a type)");
            Check.due("the latest type", 1, () -> pads.add(1, 2, types - 1));
            Check.due("the one behind", Check.ARGUMENT, () -> pads.add(1, 2, types));
            Check.due("-1", Check.ARGUMENT, () -> pads.add(1, 2, -1));
            Check.sentence(3, "4 CATCH x (a type, or -1 for all)");
            Check.due("the latest type", 2, () -> pads.add(1, 4, types - 1));
            Check.due("the one behind", Check.ARGUMENT, () -> pads.add(1, 4, types));
            Check.due("all", 3, () -> pads.add(1, 4, -1));
            Check.due("-2, a filter but no type", Check.ARGUMENT, () -> pads.add(1, 4, -2));
            for (int x : FAR) {
                Check.due("throw " + x, Check.ARGUMENT, () -> pads.add(1, 2, x));
                Check.due("catch " + x, Check.ARGUMENT, () -> pads.add(1, 4, x));
            }
            Check.due("nothing else was taken", 4, () -> pads.add(1, 0, 0));
            pads.wipe(1);
            if (types < 8) {
                pads.type(0);
            }
        }
    }

    private static void addZero() {
        Check.sentence(3, "or x is not as said (0 for TRY, END, RETHROW)");
        for (int statement : new int[] {3, 5, 7}) {
            LandingPads pads = new LandingPads();
            for (int x : new int[] {-1, 1, 99, LEAST, MOST, 256, 65536}) {
                Check.due(statement + " with " + x, Check.ARGUMENT, () -> pads.add(2, statement, x));
            }
            Check.due(statement + " with 0, on a text that is still empty", 1, () -> pads.add(2, statement, 0));
        }
    }

    private static void twentyStatements() {
        Check.sentence(3, "IllegalStateException when there are 20.");
        for (int statement = 0; statement < 8; statement++) {
            int s = statement;
            LandingPads pads = new LandingPads();
            Check.write(pads, 4, Check.times("PRINT 3", 19));
            Check.due("the twentieth", 20, () -> pads.add(4, 0, 4));
            Check.due("one more of " + s, Check.STATE, () -> pads.add(4, s, 0));
            Check.due("and again", Check.STATE, () -> pads.add(4, s, 0));
            Check.due("code of twenty", 21, () -> pads.compile(4));
            Check.due("the nineteenth", 3, () -> pads.code(4, 18, 1));
            Check.due("the twentieth", 4, () -> pads.code(4, 19, 1));
            Check.due("the first of another function", 1, () -> pads.add(3, s, 0));
            pads.wipe(4);
            Check.due("the first of the wiped one", 1, () -> pads.add(4, s, 0));
        }
    }

    private static void twentyStatementsAndWrongOnes() {
        Check.sentence(3, "Throws IllegalArgumentException when there is no such function or statement");
        LandingPads pads = new LandingPads();
        Check.write(pads, 0, Check.times("PRINT 3", 20));
        Check.due("function 6", Check.ARGUMENT, () -> pads.add(6, 0, 0));
        Check.due("statement 8 when there are 20", Check.ARGUMENT, () -> pads.add(0, 8, 0));
        Check.due("PRINT 100 when there are 20", Check.ARGUMENT, () -> pads.add(0, 0, 100));
        Check.due("THROW of no type when there are 20", Check.ARGUMENT, () -> pads.add(0, 2, 1));
        Check.due("END 1 when there are 20", Check.ARGUMENT, () -> pads.add(0, 5, 1));
    }

    // Promise 4: wipe.

    private static void wipeEmptyToFull() {
        Check.sentence(4, "Empties the text of a function (its code stays).");
        for (int length = 0; length <= 20; length++) {
            LandingPads pads = new LandingPads();
            Check.write(pads, 2, Check.times("END", length));
            Check.write(pads, 1, "PRINT 1");
            Check.write(pads, 3, "PRINT 1");
            Check.due("wipe of " + length, 0, () -> Check.wiped(pads, 2));
            Check.due("an empty text is left", 1, () -> pads.compile(2));
            Check.due("the first again", 1, () -> pads.add(2, 0, 1));
            Check.due("the text before stays", 2, () -> pads.add(1, 0, 1));
            Check.due("the text behind stays", 2, () -> pads.add(3, 0, 1));
            pads.wipe(2);
            Check.due("wipe of an empty one", 0, () -> Check.wiped(pads, 2));
            Check.write(pads, 2, Check.times("PRINT 5", 19));
            Check.due("twenty once more", 20, () -> pads.add(2, 0, 6));
            Check.due("twenty-one", Check.STATE, () -> pads.add(2, 0, 7));
        }
    }

    private static void wipeLeavesCode() {
        Check.sentence(4, "Empties the text of a function (its code stays).");
        LandingPads pads = new LandingPads();
        Check.make(pads, 0, "TRY; LOCAL 3; THROW 0; END; CATCH -1; PRINT 8; END");
        pads.run(0);
        pads.wipe(0);
        Check.same("code", "T0 D3 G5 D3 U G11 P8 E G11 E U X", Check.codeOf(pads, 0));
        Check.same("actions", "-1>6>-1 -2>3>0 -2>9>-1", Check.actionsOf(pads, 0));
        Check.same("sites", "0-0:1", Check.sitesOf(pads, 0));
        Check.same("the latest run", "2 7 1 1 1 -1", Check.countsOf(pads));
        Check.due("run", 0, () -> pads.run(0));
        Check.same("out", "103 8", Check.outOf(pads));
    }

    private static void wipeLeavesNoCode() {
        Check.sentence(4, "Empties the text of a function (its code stays).");
        LandingPads pads = new LandingPads();
        Check.write(pads, 5, "PRINT 1");
        pads.wipe(5);
        Check.due("it has no code", 0, () -> pads.size(5, 0));
        Check.due("nor a run", Check.STATE, () -> pads.run(5));
    }

    private static void wipeNoFunction() {
        Check.sentence(4, "Throws IllegalArgumentException when there is no such function.");
        LandingPads pads = new LandingPads();
        for (int f = 0; f < 6; f++) {
            pads.add(f, 0, f);
        }
        for (int function : NO_FUNCTIONS) {
            Check.due("function " + function, Check.ARGUMENT, () -> Check.wiped(pads, function));
        }
        for (int f = 0; f < 6; f++) {
            int function = f;
            Check.due("the text of " + f + " stays", 2, () -> pads.add(function, 0, 0));
            Check.due("wipe of " + f, 0, () -> Check.wiped(pads, function));
            Check.due("it is empty", 1, () -> pads.add(function, 0, 0));
        }
    }
}
