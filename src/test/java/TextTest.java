/** Promises 1 to 4: a new object, type, add, wipe. */
public final class TextTest {
    private static final int[] FAR = {Integer.MIN_VALUE, -2, Integer.MAX_VALUE};

    public static void main(String[] args) {
        newObject();
        objectsAreApart();
        types();
        typesAreParentsOnlyOnceMade();
        wrongParentBeforeFullness();
        addCounts();
        addNumbers();
        addFunctions();
        addTypes();
        addWithoutNumber();
        addWrongFunctionOrStatement();
        addToFullText();
        wipeEmpties();
        wipeLeavesCodeAndOthers();
        Check.finish("TextTest");
    }

    private static void newObject() {
        LandingPads pads = new LandingPads();
        for (int function = 0; function < 6; function++) {
            int f = function;
            for (int what = 0; what < 3; what++) {
                int w = what;
                Check.due("size of a new object", 0, () -> pads.size(f, w));
            }
            Check.due("run of a new object", Check.STATE, () -> pads.run(f));
            Check.due("code of a new object", Check.NO_ELEMENT, () -> pads.code(f, 0, 0));
            Check.due("action of a new object", Check.NO_ELEMENT, () -> pads.action(f, 0, 0));
            Check.due("site of a new object", Check.NO_ELEMENT, () -> pads.site(f, 0, 0));
        }
        Check.same("counts of a new object", "0 0 0 0 0 -1", Check.countsOf(pads));
        Check.due("out of a new object", Check.NO_ELEMENT, () -> pads.out(0));
        Check.due("type 0 is there", 1, () -> pads.add(0, 2, 0));
        Check.due("type 1 is not", Check.ARGUMENT, () -> pads.add(0, 2, 1));
        Check.due("an empty text is well formed", 1, () -> pads.compile(5));
    }

    private static void objectsAreApart() {
        LandingPads one = new LandingPads();
        one.type(0);
        Check.make(one, 0, "PRINT 1");
        one.run(0);
        LandingPads other = new LandingPads();
        Check.due("the first type of another object", 1, () -> other.type(0));
        Check.due("the code of another object", 0, () -> other.size(0, 0));
        Check.due("the run of another object", 0, () -> other.count(0));
    }

    private static void types() {
        LandingPads pads = new LandingPads();
        int[] parents = {0, -1, 2, 3, 0, 5, 6};
        for (int i = 0; i < parents.length; i++) {
            int parent = parents[i];
            Check.due("type", i + 1, () -> pads.type(parent));
        }
        for (int parent = -1; parent < 8; parent++) {
            int p = parent;
            Check.due("a ninth type", Check.STATE, () -> pads.type(p));
        }
        Check.due("the eighth type is one", 1, () -> pads.add(0, 2, 7));
    }

    private static void typesAreParentsOnlyOnceMade() {
        LandingPads pads = new LandingPads();
        Check.due("a parent that would be the type itself", Check.ARGUMENT, () -> pads.type(1));
        for (int parent : FAR) {
            Check.due("a far parent", Check.ARGUMENT, () -> pads.type(parent));
        }
        Check.due("nothing was made", 1, () -> pads.type(-1));
        Check.due("then it may be a parent", 2, () -> pads.type(1));
    }

    private static void wrongParentBeforeFullness() {
        LandingPads pads = new LandingPads();
        for (int i = 0; i < 7; i++) {
            pads.type(i);
        }
        Check.due("a wrong parent when there are 8", Check.ARGUMENT, () -> pads.type(8));
        Check.due("another", Check.ARGUMENT, () -> pads.type(-2));
    }

    private static void addCounts() {
        LandingPads pads = new LandingPads();
        Check.due("the first", 1, () -> pads.add(2, 0, 5));
        Check.due("the second", 2, () -> pads.add(2, 6, 5));
        Check.due("the first of another function", 1, () -> pads.add(3, 7, 0));
        Check.due("a refused one", Check.ARGUMENT, () -> pads.add(2, 0, -1));
        Check.due("the third", 3, () -> pads.add(2, 5, 0));
    }

    private static void addNumbers() {
        for (int statement : new int[] {0, 6}) {
            LandingPads pads = new LandingPads();
            Check.due("least number", 1, () -> pads.add(0, statement, 0));
            Check.due("greatest number", 2, () -> pads.add(0, statement, 99));
            Check.due("below", Check.ARGUMENT, () -> pads.add(0, statement, -1));
            Check.due("above", Check.ARGUMENT, () -> pads.add(0, statement, 100));
            for (int x : FAR) {
                Check.due("far", Check.ARGUMENT, () -> pads.add(0, statement, x));
            }
        }
    }

    private static void addFunctions() {
        LandingPads pads = new LandingPads();
        Check.due("the least function", 1, () -> pads.add(0, 1, 0));
        Check.due("the greatest function", 2, () -> pads.add(0, 1, 5));
        Check.due("below", Check.ARGUMENT, () -> pads.add(0, 1, -1));
        Check.due("above", Check.ARGUMENT, () -> pads.add(0, 1, 6));
    }

    private static void addTypes() {
        LandingPads pads = new LandingPads();
        Check.due("throw of no type", Check.ARGUMENT, () -> pads.add(0, 2, 1));
        Check.due("catch of no type", Check.ARGUMENT, () -> pads.add(0, 4, 1));
        pads.type(-1);
        Check.due("throw of a type", 1, () -> pads.add(0, 2, 1));
        Check.due("catch of a type", 2, () -> pads.add(0, 4, 1));
        Check.due("catch of all", 3, () -> pads.add(0, 4, -1));
        Check.due("throw of all", Check.ARGUMENT, () -> pads.add(0, 2, -1));
        Check.due("catch of -2", Check.ARGUMENT, () -> pads.add(0, 4, -2));
        Check.due("catch of 2", Check.ARGUMENT, () -> pads.add(0, 4, 2));
    }

    private static void addWithoutNumber() {
        LandingPads pads = new LandingPads();
        int length = 0;
        for (int statement : new int[] {3, 5, 7}) {
            length++;
            Check.due("with 0", length, () -> pads.add(0, statement, 0));
            Check.due("with 1", Check.ARGUMENT, () -> pads.add(0, statement, 1));
            Check.due("with -1", Check.ARGUMENT, () -> pads.add(0, statement, -1));
        }
    }

    private static void addWrongFunctionOrStatement() {
        LandingPads pads = new LandingPads();
        for (int wrong : new int[] {-1, Integer.MIN_VALUE, Integer.MAX_VALUE}) {
            Check.due("function", Check.ARGUMENT, () -> pads.add(wrong, 0, 0));
            Check.due("statement", Check.ARGUMENT, () -> pads.add(0, wrong, 0));
        }
        Check.due("function 6", Check.ARGUMENT, () -> pads.add(6, 0, 0));
        Check.due("statement 8", Check.ARGUMENT, () -> pads.add(0, 8, 0));
        Check.due("function 5 and statement 7", 1, () -> pads.add(5, 7, 0));
    }

    private static void addToFullText() {
        LandingPads pads = new LandingPads();
        for (int i = 1; i <= 20; i++) {
            Check.due("statement " + i, i, () -> pads.add(1, 0, 9));
        }
        Check.due("one more", Check.STATE, () -> pads.add(1, 0, 9));
        Check.due("a wrong one more", Check.ARGUMENT, () -> pads.add(1, 0, 100));
        Check.due("the code of all", 21, () -> pads.compile(1));
        Check.due("another function", 1, () -> pads.add(0, 0, 9));
    }

    private static void wipeEmpties() {
        LandingPads pads = new LandingPads();
        for (int i = 0; i < 20; i++) {
            pads.add(4, 5, 0);
        }
        pads.wipe(4);
        Check.due("the empty text", 1, () -> pads.compile(4));
        Check.due("the first again", 1, () -> pads.add(4, 0, 1));
        for (int wrong : new int[] {-1, 6, Integer.MIN_VALUE, Integer.MAX_VALUE}) {
            Check.due("wipe of no function", Check.ARGUMENT, () -> Check.wiped(pads, wrong));
        }
    }

    private static void wipeLeavesCodeAndOthers() {
        LandingPads pads = new LandingPads();
        Check.make(pads, 0, "LOCAL 3; THROW 0; END");
        Check.write(pads, 1, "PRINT 1");
        pads.wipe(0);
        Check.same("code after wipe", "T0 D3 G5 D3 U X", Check.codeOf(pads, 0));
        Check.same("actions after wipe", "-2>3>-1", Check.actionsOf(pads, 0));
        Check.same("sites after wipe", "0-0:0", Check.sitesOf(pads, 0));
        Check.due("run after wipe", 1, () -> pads.run(0));
        Check.due("the other text", 2, () -> pads.add(1, 0, 1));
    }
}
