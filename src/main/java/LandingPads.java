import java.util.NoSuchElementException;

/**
 * Compiles texts with blocks that catch and clean up into code with tables of
 * actions and sites, and runs that code on a machine that unwinds in two phases.
 */
public final class LandingPads {

    private static final int MOST_TYPES = 8;
    private static final int FUNCTIONS = 6;
    private static final int MOST_STATEMENTS = 20;
    private static final int GREATEST_NUMBER = 99;
    private static final int MOST_INNER_ROWS = 5;
    private static final int MOST_FRAMES = 8;
    private static final int MOST_STEPS = 300;
    private static final int MOST_OUT = 60;

    // A statement makes at most four instructions (a CATCH does), two actions (a CATCH
    // again) and one site; the X at the end belongs to no statement.
    private static final int MOST_INSTRUCTIONS = 4 * MOST_STATEMENTS + 1;
    private static final int MOST_ACTIONS = 2 * MOST_STATEMENTS;
    private static final int MOST_SITES = MOST_STATEMENTS;

    private static final int PRINT = 0;
    private static final int CALL = 1;
    private static final int THROW = 2;
    private static final int TRY = 3;
    private static final int CATCH = 4;
    private static final int END = 5;
    private static final int LOCAL = 6;
    private static final int RETHROW = 7;

    private static final int LETTER_P = 0;
    private static final int LETTER_C = 1;
    private static final int LETTER_T = 2;
    private static final int LETTER_R = 3;
    private static final int LETTER_G = 4;
    private static final int LETTER_D = 5;
    private static final int LETTER_E = 6;
    private static final int LETTER_U = 7;
    private static final int LETTER_X = 8;

    private static final int NONE = -1;
    private static final int FILTER_ALL = -1;
    private static final int FILTER_CLEANUP = -2;
    private static final int CLEANED_BASE = 100;

    private static final int GOES_ON = -1;
    private static final int ENDED_OVER = 0;
    private static final int ENDED_NOT_CAUGHT = 1;
    private static final int ENDED_TOO_DEEP = 2;
    private static final int ENDED_TOO_LONG = 3;
    private static final int ENDED_NO_CODE = 4;
    private static final int ENDED_TOO_MUCH_OUT = 5;

    private final Text[] texts;
    private final Checker checker;
    private final Compiler compiler;
    private final Machine machine;

    public LandingPads() {
        texts = new Text[FUNCTIONS];
        for (int function = 0; function < FUNCTIONS; function++) {
            texts[function] = new Text();
        }
        checker = new Checker();
        compiler = new Compiler();
        machine = new Machine();
    }

    public int type(int parent) throws IllegalArgumentException, IllegalStateException {
        if (parent != NONE && !machine.types.has(parent)) {
            throw new IllegalArgumentException("the parent is no type");
        }
        if (machine.types.isFull()) {
            throw new IllegalStateException("there are 8 types");
        }
        return machine.types.make(parent);
    }

    public int add(int function, int statement, int x)
            throws IllegalArgumentException, IllegalStateException {
        requireFunction(function);
        if (!isAllowed(statement, x)) {
            throw new IllegalArgumentException("no such statement, or not with this x");
        }
        if (texts[function].isFull()) {
            throw new IllegalStateException("there are 20 statements");
        }
        return texts[function].append(statement, x);
    }

    public void wipe(int function) throws IllegalArgumentException {
        requireFunction(function);
        texts[function].length = 0;
    }

    public int compile(int function) throws IllegalArgumentException, IllegalStateException {
        requireFunction(function);
        Text text = texts[function];
        // Looked at as a whole first, so that a refused text leaves the old code alone.
        if (!checker.isWellFormed(text)) {
            throw new IllegalStateException("the text is not well formed");
        }
        Program program = machine.programs[function];
        compiler.translate(text, program);
        return program.instructions;
    }

    public int size(int function, int what) throws IllegalArgumentException {
        requireFunction(function);
        Program program = machine.programs[function];
        switch (what) {
            case 0: return program.instructions;
            case 1: return program.actions;
            case 2: return program.sites;
            default: throw new IllegalArgumentException("no such what");
        }
    }

    public int code(int function, int p, int what) throws NoSuchElementException {
        if (!isFunction(function) || !machine.programs[function].hasInstruction(p)) {
            throw new NoSuchElementException("no such instruction");
        }
        Program program = machine.programs[function];
        switch (what) {
            case 0: return program.letterAt(p);
            case 1: return program.valueAt(p);
            default: throw new NoSuchElementException("no such part of an instruction");
        }
    }

    public int action(int function, int k, int what) throws NoSuchElementException {
        if (!isFunction(function) || !machine.programs[function].hasAction(k)) {
            throw new NoSuchElementException("no such action");
        }
        Program program = machine.programs[function];
        switch (what) {
            case 0: return program.filterOf(k);
            case 1: return program.landingOf(k);
            case 2: return program.nextOf(k);
            default: throw new NoSuchElementException("no such part of an action");
        }
    }

    public int site(int function, int k, int what) throws NoSuchElementException {
        if (!isFunction(function) || !machine.programs[function].hasSite(k)) {
            throw new NoSuchElementException("no such site");
        }
        Program program = machine.programs[function];
        switch (what) {
            case 0: return program.firstPlaceOf(k);
            case 1: return program.lastPlaceOf(k);
            case 2: return program.siteHeadOf(k);
            default: throw new NoSuchElementException("no such part of a site");
        }
    }

    public int run(int function) throws IllegalArgumentException, IllegalStateException {
        requireFunction(function);
        if (!machine.programs[function].isMade()) {
            throw new IllegalStateException("the function has no code");
        }
        return machine.execute(function);
    }

    public int count(int what) throws IllegalArgumentException {
        Tally latest = machine.latest;
        switch (what) {
            case 0: return latest.numbersOut;
            case 1: return latest.steps;
            case 2: return latest.cleaned;
            case 3: return latest.handlersFound;
            case 4: return latest.mostFrames;
            case 5: return latest.notCaught;
            default: throw new IllegalArgumentException("no such what");
        }
    }

    public int out(int k) throws NoSuchElementException {
        if (!machine.latest.hasNumber(k)) {
            throw new NoSuchElementException("no such number");
        }
        return machine.latest.numberAt(k);
    }

    private static boolean isFunction(int function) {
        return function >= 0 && function < FUNCTIONS;
    }

    private static void requireFunction(int function) {
        if (!isFunction(function)) {
            throw new IllegalArgumentException("no such function");
        }
    }

    private boolean isAllowed(int statement, int x) {
        switch (statement) {
            case PRINT:
            case LOCAL:
                return x >= 0 && x <= GREATEST_NUMBER;
            case CALL:
                return isFunction(x);
            case THROW:
                return machine.types.has(x);
            case CATCH:
                return x == FILTER_ALL || machine.types.has(x);
            case TRY:
            case END:
            case RETHROW:
                return x == 0;
            default:
                return false;
        }
    }

    /** The types of exceptions, each with its parent or NONE. */
    private static final class Types {
        private final int[] parents;
        private int made;

        Types() {
            parents = new int[MOST_TYPES];
            parents[0] = NONE;
            made = 1;
        }

        boolean has(int number) {
            return number >= 0 && number < made;
        }

        boolean isFull() {
            return made >= MOST_TYPES;
        }

        int make(int parent) {
            if (isFull()) {
                return NONE;
            }
            int number = made;
            parents[number] = parent;
            made++;
            return number;
        }

        boolean isAnother(int number, int other) {
            int ancestor = number;
            for (int climbed = 0; climbed < MOST_TYPES && has(ancestor); climbed++) {
                if (ancestor == other) {
                    return true;
                }
                ancestor = parents[ancestor];
            }
            return false;
        }
    }

    /** The statements of one function. */
    private static final class Text {
        private final int[] statements;
        private final int[] operands;
        private int length;

        Text() {
            statements = new int[MOST_STATEMENTS];
            operands = new int[MOST_STATEMENTS];
        }

        boolean isFull() {
            return length >= MOST_STATEMENTS;
        }

        int append(int statement, int x) {
            if (!isFull()) {
                statements[length] = statement;
                operands[length] = x;
                length++;
            }
            return length;
        }

        boolean has(int i) {
            return i >= 0 && i < length;
        }

        int statementAt(int i) {
            return has(i) ? statements[i] : NONE;
        }

        int operandAt(int i) {
            return has(i) ? operands[i] : NONE;
        }
    }

    /** Tells whether a text is well formed, by the statements whose rows are open. */
    private static final class Checker {
        private final int[] openers;
        private int open;

        Checker() {
            openers = new int[MOST_INNER_ROWS];
        }

        boolean isWellFormed(Text text) {
            open = 0;
            for (int i = 0; i < text.length; i++) {
                if (!accepts(text.statementAt(i))) {
                    return false;
                }
            }
            return open == 0;
        }

        private boolean accepts(int statement) {
            switch (statement) {
                case LOCAL:
                case TRY:
                    return opensRow(statement);
                case CATCH:
                    return turnsToCatch();
                case END:
                    return closesRow();
                case RETHROW:
                    return isInCatch();
                default:
                    return true;
            }
        }

        private boolean opensRow(int opener) {
            if (open >= MOST_INNER_ROWS) {
                return false;
            }
            openers[open] = opener;
            open++;
            return true;
        }

        private boolean turnsToCatch() {
            if (open < 1 || openers[open - 1] == LOCAL) {
                return false;
            }
            openers[open - 1] = CATCH;
            return true;
        }

        private boolean closesRow() {
            // The row of a TRY is followed by a CATCH, never by the END itself.
            if (open < 1 || openers[open - 1] == TRY) {
                return false;
            }
            open--;
            return true;
        }

        private boolean isInCatch() {
            for (int i = 0; i < open; i++) {
                if (openers[i] == CATCH) {
                    return true;
                }
            }
            return false;
        }
    }

    /** The code of one function with its tables of actions and sites. */
    private static final class Program {
        private final int[] letters;
        private final int[] values;
        private int instructions;
        private final int[] filters;
        private final int[] landings;
        private final int[] nexts;
        private int actions;
        private final int[] firsts;
        private final int[] lasts;
        private final int[] heads;
        private int sites;

        Program() {
            letters = new int[MOST_INSTRUCTIONS];
            values = new int[MOST_INSTRUCTIONS];
            filters = new int[MOST_ACTIONS];
            landings = new int[MOST_ACTIONS];
            nexts = new int[MOST_ACTIONS];
            firsts = new int[MOST_SITES];
            lasts = new int[MOST_SITES];
            heads = new int[MOST_SITES];
        }

        void clear() {
            instructions = 0;
            actions = 0;
            sites = 0;
        }

        boolean isMade() {
            return instructions > 0;
        }

        boolean hasInstruction(int p) {
            return p >= 0 && p < instructions;
        }

        boolean hasAction(int k) {
            return k >= 0 && k < actions;
        }

        boolean hasSite(int k) {
            return k >= 0 && k < sites;
        }

        int letterAt(int p) {
            return hasInstruction(p) ? letters[p] : LETTER_X;
        }

        int valueAt(int p) {
            return hasInstruction(p) ? values[p] : 0;
        }

        int filterOf(int k) {
            return hasAction(k) ? filters[k] : FILTER_CLEANUP;
        }

        int landingOf(int k) {
            return hasAction(k) ? landings[k] : 0;
        }

        int nextOf(int k) {
            return hasAction(k) ? nexts[k] : NONE;
        }

        int firstPlaceOf(int k) {
            return hasSite(k) ? firsts[k] : NONE;
        }

        int lastPlaceOf(int k) {
            return hasSite(k) ? lasts[k] : NONE;
        }

        int siteHeadOf(int k) {
            return hasSite(k) ? heads[k] : NONE;
        }

        /** The head of the site in which a place is. */
        int headAround(int place) {
            for (int k = 0; k < sites; k++) {
                if (firsts[k] <= place && place <= lasts[k]) {
                    return heads[k];
                }
            }
            return NONE;
        }

        void emit(int letter, int value) {
            if (instructions < MOST_INSTRUCTIONS) {
                letters[instructions] = letter;
                values[instructions] = value;
                instructions++;
            }
        }

        /** Emits an instruction at which an exception may come up. */
        void emitAtSite(int letter, int value, int head) {
            if (sites > 0 && heads[sites - 1] == head) {
                lasts[sites - 1] = instructions;
            } else if (sites < MOST_SITES) {
                firsts[sites] = instructions;
                lasts[sites] = instructions;
                heads[sites] = head;
                sites++;
            }
            emit(letter, value);
        }

        void aim(int p, int place) {
            if (hasInstruction(p)) {
                values[p] = place;
            }
        }

        int makeAction(int filter, int next) {
            if (actions >= MOST_ACTIONS) {
                return NONE;
            }
            int k = actions;
            filters[k] = filter;
            landings[k] = 0;
            nexts[k] = next;
            actions++;
            return k;
        }

        void chain(int k, int next) {
            if (hasAction(k)) {
                nexts[k] = next;
            }
        }

        void landHere(int k) {
            if (hasAction(k)) {
                landings[k] = instructions;
            }
        }
    }

    /** A LOCAL or TRY whose END has not come yet. */
    private static final class Block {
        private int kind;
        private int operand;
        private int head;
        private int outerHead;
        private int nextCatch;
        private final int[] exits;
        private int exitCount;

        Block() {
            exits = new int[MOST_STATEMENTS];
        }

        void begin(int kind, int operand, int head, int outerHead) {
            this.kind = kind;
            this.operand = operand;
            this.head = head;
            this.outerHead = outerHead;
            nextCatch = head;
            exitCount = 0;
        }

        /** Keeps the place of a G whose aim is known only at the END. */
        void noteExit(int place) {
            if (exitCount < MOST_STATEMENTS) {
                exits[exitCount] = place;
                exitCount++;
            }
        }

        void aimExits(Program program) {
            for (int i = 0; i < exitCount; i++) {
                program.aim(exits[i], program.instructions);
            }
        }
    }

    /** Makes code, actions and sites of a well-formed text, in one pass over it. */
    private static final class Compiler {
        private final Block[] blocks;
        private int open;

        Compiler() {
            blocks = new Block[MOST_INNER_ROWS];
            for (int i = 0; i < MOST_INNER_ROWS; i++) {
                blocks[i] = new Block();
            }
        }

        void translate(Text text, Program program) {
            program.clear();
            open = 0;
            for (int i = 0; i < text.length; i++) {
                translateStatement(text, i, program);
            }
            program.emit(LETTER_X, 0);
        }

        private void translateStatement(Text text, int i, Program program) {
            int x = text.operandAt(i);
            switch (text.statementAt(i)) {
                case PRINT:
                    program.emit(LETTER_P, x);
                    break;
                case CALL:
                    program.emitAtSite(LETTER_C, x, currentHead());
                    break;
                case THROW:
                    program.emitAtSite(LETTER_T, x, currentHead());
                    break;
                case RETHROW:
                    program.emitAtSite(LETTER_R, 0, currentHead());
                    break;
                case LOCAL:
                    openBlock(LOCAL, x, program.makeAction(FILTER_CLEANUP, currentHead()));
                    break;
                case TRY:
                    openBlock(TRY, 0, makeCatchActions(text, i, program));
                    break;
                case CATCH:
                    beginCatch(program);
                    break;
                case END:
                    closeBlock(program);
                    break;
                default:
                    break;
            }
        }

        private int currentHead() {
            return open > 0 ? blocks[open - 1].head : NONE;
        }

        private void openBlock(int kind, int operand, int head) {
            if (open < MOST_INNER_ROWS) {
                blocks[open].begin(kind, operand, head, currentHead());
                open++;
            }
        }

        /** Makes the actions of all CATCHes of the TRY at start: the first one's number. */
        private int makeCatchActions(Text text, int start, Program program) {
            int first = program.actions;
            int nested = 0;
            for (int i = start + 1; i < text.length && nested >= 0; i++) {
                int statement = text.statementAt(i);
                if (statement == LOCAL || statement == TRY) {
                    nested++;
                } else if (statement == END) {
                    nested--;
                } else if (statement == CATCH && nested == 0) {
                    program.makeAction(text.operandAt(i), program.actions + 1);
                }
            }
            program.chain(program.actions - 1, currentHead());
            return first;
        }

        private void beginCatch(Program program) {
            if (open < 1) {
                return;
            }
            Block block = blocks[open - 1];
            if (block.kind == TRY) {
                emitExit(block, program);
            } else {
                finishCatch(block, program);
            }
            program.landHere(block.nextCatch);
            block.nextCatch++;
            block.kind = CATCH;
            block.head = program.makeAction(FILTER_CLEANUP, block.outerHead);
        }

        private void closeBlock(Program program) {
            if (open < 1) {
                return;
            }
            Block block = blocks[open - 1];
            if (block.kind == LOCAL) {
                finishLocal(block, program);
            } else {
                finishCatch(block, program);
            }
            block.aimExits(program);
            open--;
        }

        private void finishLocal(Block block, Program program) {
            program.emit(LETTER_D, block.operand);
            emitExit(block, program);
            program.landHere(block.head);
            program.emit(LETTER_D, block.operand);
            program.emit(LETTER_U, 0);
        }

        private void finishCatch(Block block, Program program) {
            program.emit(LETTER_E, 0);
            emitExit(block, program);
            program.landHere(block.head);
            program.emit(LETTER_E, 0);
            program.emit(LETTER_U, 0);
        }

        private void emitExit(Block block, Program program) {
            block.noteExit(program.instructions);
            program.emit(LETTER_G, 0);
        }
    }

    /** One call of a function that is not over. */
    private static final class Frame {
        private int function;
        private int place;
        private final int[] caught;
        private int caughtCount;

        Frame() {
            // A type stays caught only inside the row of its CATCH, so rows bound them.
            caught = new int[MOST_INNER_ROWS];
        }

        void begin(int function) {
            this.function = function;
            place = 0;
            caughtCount = 0;
        }

        /** The place of the instruction that the frame is at; place is already the next. */
        int currentPlace() {
            return place - 1;
        }

        void pushCaught(int number) {
            if (caughtCount < MOST_INNER_ROWS) {
                caught[caughtCount] = number;
                caughtCount++;
            }
        }

        void dropCaught() {
            if (caughtCount > 0) {
                caughtCount--;
            }
        }

        int latestCaught() {
            return caughtCount > 0 ? caught[caughtCount - 1] : NONE;
        }
    }

    /** What the latest run put out and counted. */
    private static final class Tally {
        private final int[] numbers;
        private int numbersOut;
        private int steps;
        private int cleaned;
        private int handlersFound;
        private int mostFrames;
        private int notCaught;

        Tally() {
            numbers = new int[MOST_OUT];
            notCaught = NONE;
        }

        void clear() {
            numbersOut = 0;
            steps = 0;
            cleaned = 0;
            handlersFound = 0;
            mostFrames = 0;
            notCaught = NONE;
        }

        boolean isFull() {
            return numbersOut >= MOST_OUT;
        }

        void put(int number) {
            if (!isFull()) {
                numbers[numbersOut] = number;
                numbersOut++;
            }
        }

        boolean hasNumber(int k) {
            return k >= 0 && k < numbersOut;
        }

        int numberAt(int k) {
            return hasNumber(k) ? numbers[k] : NONE;
        }
    }

    /** Runs programs; holds them and the types that their exceptions have. */
    private static final class Machine {
        private final Types types;
        private final Program[] programs;
        private final Tally latest;
        private final Frame[] frames;
        private int depth;
        private int raised;
        private int handlerDepth;
        private int handlerAction;
        private int landedAction;

        Machine() {
            types = new Types();
            latest = new Tally();
            programs = new Program[FUNCTIONS];
            for (int function = 0; function < FUNCTIONS; function++) {
                programs[function] = new Program();
            }
            frames = new Frame[MOST_FRAMES];
            for (int i = 0; i < MOST_FRAMES; i++) {
                frames[i] = new Frame();
            }
        }

        int execute(int function) {
            latest.clear();
            depth = 0;
            int ending = enter(function);
            while (ending == GOES_ON && latest.steps < MOST_STEPS) {
                latest.steps++;
                ending = step(top());
            }
            return ending == GOES_ON ? ENDED_TOO_LONG : ending;
        }

        private Frame top() {
            return frames[depth > 0 ? depth - 1 : 0];
        }

        private int step(Frame frame) {
            Program program = programs[frame.function];
            int letter = program.letterAt(frame.place);
            int value = program.valueAt(frame.place);
            frame.place++;
            switch (letter) {
                case LETTER_P: return print(value);
                case LETTER_C: return enter(value);
                case LETTER_T: return raise(value);
                case LETTER_R: return raise(frame.latestCaught());
                case LETTER_G: return jump(frame, value);
                case LETTER_D: return clean(value);
                case LETTER_E: return endCatch(frame);
                case LETTER_U: return unwind(program.nextOf(landedAction));
                default: return leave();
            }
        }

        private int print(int number) {
            if (latest.isFull()) {
                return ENDED_TOO_MUCH_OUT;
            }
            latest.put(number);
            return GOES_ON;
        }

        private int clean(int local) {
            int ending = print(CLEANED_BASE + local);
            if (ending == GOES_ON) {
                latest.cleaned++;
            }
            return ending;
        }

        private int jump(Frame frame, int place) {
            frame.place = place;
            return GOES_ON;
        }

        private int endCatch(Frame frame) {
            frame.dropCaught();
            return GOES_ON;
        }

        private int enter(int function) {
            if (!isFunction(function) || !programs[function].isMade()) {
                return ENDED_NO_CODE;
            }
            if (depth >= MOST_FRAMES) {
                return ENDED_TOO_DEEP;
            }
            frames[depth].begin(function);
            depth++;
            latest.mostFrames = Math.max(latest.mostFrames, depth);
            return GOES_ON;
        }

        private int leave() {
            if (depth > 0) {
                depth--;
            }
            return depth > 0 ? GOES_ON : ENDED_OVER;
        }

        private int raise(int number) {
            if (!findHandler(number)) {
                latest.notCaught = number;
                return ENDED_NOT_CAUGHT;
            }
            latest.handlersFound++;
            raised = number;
            return unwind(headOf(top()));
        }

        private int headOf(Frame frame) {
            return programs[frame.function].headAround(frame.currentPlace());
        }

        /** Phase one: keeps where the handler is, and changes nothing else. */
        private boolean findHandler(int number) {
            for (int level = depth; level > 0; level--) {
                Frame frame = frames[level - 1];
                int k = firstCatching(frame, headOf(frame), number);
                if (k != NONE) {
                    handlerDepth = level;
                    handlerAction = k;
                    return true;
                }
            }
            return false;
        }

        private int firstCatching(Frame frame, int head, int number) {
            Program program = programs[frame.function];
            int k = head;
            for (int seen = 0; seen < MOST_ACTIONS && program.hasAction(k); seen++) {
                int filter = program.filterOf(k);
                if (filter == FILTER_ALL || types.isAnother(number, filter)) {
                    return k;
                }
                k = program.nextOf(k);
            }
            return NONE;
        }

        /** Phase two, from an action of the top frame on, up to the next landing. */
        private int unwind(int start) {
            int k = firstLanding(start);
            // Phase one found the handler, so a landing comes before the frames run out.
            while (k == NONE && depth > 1) {
                depth--;
                k = firstLanding(headOf(top()));
            }
            return land(k);
        }

        private int firstLanding(int start) {
            Program program = programs[top().function];
            int k = start;
            for (int seen = 0; seen < MOST_ACTIONS && program.hasAction(k); seen++) {
                if (program.filterOf(k) == FILTER_CLEANUP || isHandler(k)) {
                    return k;
                }
                k = program.nextOf(k);
            }
            return NONE;
        }

        private boolean isHandler(int k) {
            return depth == handlerDepth && k == handlerAction;
        }

        private int land(int k) {
            Frame frame = top();
            if (isHandler(k)) {
                frame.pushCaught(raised);
            } else {
                landedAction = k;
            }
            return jump(frame, programs[frame.function].landingOf(k));
        }
    }
}
