import java.util.ArrayList;
import java.util.List;

/**
 * A refused call changes nothing: of two objects with the same calls behind them one
 * gets a refused call more, and then both are asked for all that can be seen of them.
 */
public final class RefusalTest {
    private static final int MOST_CALLS = 512;
    private static final int[] FAR = {Integer.MIN_VALUE, Integer.MAX_VALUE};

    /** A call on an object that is made for it. */
    private interface Refusal {
        int on(LandingPads pads);
    }

    private record Refused(String name, String due, Refusal call) {
    }

    public static void main(String[] args) {
        for (int state = 0; state < 4; state++) {
            for (Refused refused : refusals(state)) {
                changesNothing(state, refused);
            }
        }
        Check.finish("RefusalTest");
    }

    private static void changesNothing(int state, Refused refused) {
        LandingPads asked = inState(state);
        LandingPads spared = inState(state);
        String name = refused.name + " in state " + state;
        Check.due(name, refused.due, () -> refused.call.on(asked));
        Look look = new Look(spared);
        Check.same("all behind " + name, look.all(), new Look(asked).all());
        // The calls of inState and the refused one are fewer than 100.
        Check.holds("whether an object was used within its calls: " + look.calls, look.calls + 100 <= MOST_CALLS);
    }

    /** 0: new; 1: with code, texts and a run; 2: with 8 types and full texts; 3: behind a run that was cut off. */
    private static LandingPads inState(int state) {
        LandingPads pads = new LandingPads();
        if (state == 1) {
            pads.type(0);
            Check.make(pads, 0, "TRY; CALL 1; CATCH 1; RETHROW; END");
            Check.make(pads, 1, "LOCAL 4; THROW 1; END; PRINT 2");
            pads.run(0);
            Check.write(pads, 2, "PRINT 5; TRY");
            Check.make(pads, 5, "PRINT 8");
            Check.write(pads, 5, "END");
        } else if (state == 2) {
            for (int parent = 0; parent < 7; parent++) {
                pads.type(parent);
            }
            Check.write(pads, 0, Check.times("CALL 1", 20));
            Check.make(pads, 5, Check.times("PRINT 9", 20));
            Check.write(pads, 2, Check.times("END", 20));
            pads.run(5);
        } else if (state == 3) {
            Check.make(pads, 0, "TRY; PRINT 1; LOCAL 2; THROW 0; END; CATCH 0; CALL 0; END");
            pads.run(0);
            Check.write(pads, 0, "RETHROW");
        }
        return pads;
    }

    private static List<Refused> refusals(int state) {
        List<Refused> all = new ArrayList<>();
        refusedFunctions(all);
        refusedNumbers(all);
        refusedQuestions(all);
        refusedByState(all, state);
        return all;
    }

    private static void argument(List<Refused> all, String name, Refusal call) {
        all.add(new Refused(name, Check.ARGUMENT, call));
    }

    private static void state(List<Refused> all, String name, Refusal call) {
        all.add(new Refused(name, Check.STATE, call));
    }

    private static void element(List<Refused> all, String name, Refusal call) {
        all.add(new Refused(name, Check.NO_ELEMENT, call));
    }

    private static void refusedFunctions(List<Refused> all) {
        for (int function : new int[] {-1, 6, FAR[0], FAR[1]}) {
            argument(all, "add(" + function + ", 0, 0)", pads -> pads.add(function, 0, 0));
            argument(all, "wipe(" + function + ")", pads -> Check.wiped(pads, function));
            argument(all, "compile(" + function + ")", pads -> pads.compile(function));
            argument(all, "size(" + function + ", 0)", pads -> pads.size(function, 0));
            argument(all, "run(" + function + ")", pads -> pads.run(function));
            element(all, "code(" + function + ", 0, 0)", pads -> pads.code(function, 0, 0));
            element(all, "action(" + function + ", 0, 0)", pads -> pads.action(function, 0, 0));
            element(all, "site(" + function + ", 0, 0)", pads -> pads.site(function, 0, 0));
        }
    }

    private static void refusedNumbers(List<Refused> all) {
        for (int parent : new int[] {-2, 8, FAR[0], FAR[1]}) {
            argument(all, "type(" + parent + ")", pads -> pads.type(parent));
        }
        for (int statement : new int[] {-1, 8, FAR[0], FAR[1]}) {
            argument(all, "add(1, " + statement + ", 0)", pads -> pads.add(1, statement, 0));
        }
        // For each statement the first x on each side that is none.
        int[][] wrong = {{-1, 100}, {-1, 6}, {-1, 8}, {-1, 1}, {-2, 8}, {-1, 1}, {-1, 100}, {-1, 1}};
        for (int s = 0; s < wrong.length; s++) {
            int statement = s;
            for (int x : wrong[s]) {
                argument(all, "add(0, " + s + ", " + x + ")", pads -> pads.add(0, statement, x));
            }
            for (int x : FAR) {
                argument(all, "add(0, " + s + ", " + x + ")", pads -> pads.add(0, statement, x));
            }
        }
    }

    private static void refusedQuestions(List<Refused> all) {
        for (int none : new int[] {-1, 74, FAR[0], FAR[1]}) {
            argument(all, "size(0, " + none + ")", pads -> pads.size(0, none));
            argument(all, "count(" + none + ")", pads -> pads.count(none));
            element(all, "code(0, " + none + ", 0)", pads -> pads.code(0, none, 0));
            element(all, "code(0, 0, " + none + ")", pads -> pads.code(0, 0, none));
            element(all, "action(0, " + none + ", 0)", pads -> pads.action(0, none, 0));
            element(all, "action(0, 0, " + none + ")", pads -> pads.action(0, 0, none));
            element(all, "site(0, " + none + ", 0)", pads -> pads.site(0, none, 0));
            element(all, "site(0, 0, " + none + ")", pads -> pads.site(0, 0, none));
            element(all, "out(" + none + ")", pads -> pads.out(none));
        }
        argument(all, "size(0, 3)", pads -> pads.size(0, 3));
        argument(all, "count(6)", pads -> pads.count(6));
        element(all, "code(0, 0, 2)", pads -> pads.code(0, 0, 2));
        element(all, "action(0, 0, 3)", pads -> pads.action(0, 0, 3));
        element(all, "site(0, 0, 3)", pads -> pads.site(0, 0, 3));
        element(all, "out behind the last", pads -> pads.out(pads.count(0)));
        element(all, "code behind the last", pads -> pads.code(0, pads.size(0, 0), 0));
        element(all, "action behind the last", pads -> pads.action(0, pads.size(0, 1), 0));
        element(all, "site behind the last", pads -> pads.site(0, pads.size(0, 2), 0));
    }

    private static void refusedByState(List<Refused> all, int state) {
        state(all, "run of 4, without code", pads -> pads.run(4));
        if (state == 1) {
            state(all, "compile of 2, a TRY alone", pads -> pads.compile(2));
            state(all, "compile of 5, an END too many", pads -> pads.compile(5));
            state(all, "run of 2, with a text alone", pads -> pads.run(2));
        } else if (state == 2) {
            for (int p = -1; p < 8; p++) {
                int parent = p;
                state(all, "a ninth type", pads -> pads.type(parent));
            }
            for (int s = 0; s < 8; s++) {
                int statement = s;
                state(all, "a statement behind 20", pads -> pads.add(0, statement, 0));
                state(all, "a statement behind 20 compiled ones", pads -> pads.add(5, statement, 0));
            }
            state(all, "compile of 2, twenty ENDs", pads -> pads.compile(2));
            state(all, "run of 0, with a text alone", pads -> pads.run(0));
        } else if (state == 3) {
            state(all, "compile of 0, a RETHROW outside", pads -> pads.compile(0));
        }
    }

    /** All that can be seen of an object, first as it is and then by calls that show its texts and types. */
    private static final class Look {
        private final LandingPads pads;
        private final StringBuilder seen = new StringBuilder();
        private int calls = 0;

        Look(LandingPads pads) {
            this.pads = pads;
        }

        String all() {
            tables();
            latestRun();
            for (int function = 0; function < 6; function++) {
                int f = function;
                note(() -> pads.compile(f));
                note(() -> pads.add(f, 0, 50));
            }
            note(() -> pads.type(0));
            tables();
            for (int function = 0; function < 6; function++) {
                int f = function;
                note(() -> pads.run(f));
                latestRun();
            }
            return seen.toString();
        }

        private void note(Check.Call call) {
            calls++;
            seen.append(Check.answerOf(call)).append(' ');
        }

        private void tables() {
            for (int function = 0; function < 6; function++) {
                int f = function;
                for (int what = 0; what < 3; what++) {
                    int w = what;
                    note(() -> pads.size(f, w));
                }
                seen.append(Check.codeOf(pads, f)).append(' ').append(Check.actionsOf(pads, f)).append(' ')
                        .append(Check.sitesOf(pads, f)).append(' ');
                // codeOf, actionsOf and sitesOf ask for a size each, as this line does.
                calls += 2 * pads.size(f, 0) + 3 * pads.size(f, 1) + 3 * pads.size(f, 2) + 6;
            }
        }

        private void latestRun() {
            seen.append(Check.countsOf(pads)).append(' ').append(Check.outOf(pads)).append(' ');
            calls += 6 + pads.count(0) + 2;
        }
    }
}
