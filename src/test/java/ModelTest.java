import java.util.ArrayList;
import java.util.List;
import java.util.Random;

/** Long runs of calls, the same ones every time, on the class and on the model. */
public final class ModelTest {
    private static final int OBJECTS = 4000;
    private static final int MOST_CALLS = 512;
    private static final String[] NAMES = {
        "type", "add", "wipe", "compile", "size", "code", "action", "site", "run", "count", "out"
    };

    private final Random random;
    private final LandingPads pads = new LandingPads();
    private final Model model = new Model();
    private final int number;
    private int calls = 0;
    private int types = 1;
    private static final int[] endings = new int[6];
    private static int wellFormed = 0;
    private static int illFormed = 0;

    private ModelTest(int number) {
        this.number = number;
        random = new Random(number);
    }

    public static void main(String[] args) {
        for (int number = 0; number < OBJECTS; number++) {
            new ModelTest(number).go();
        }
        System.out.println("texts well formed " + wellFormed + ", not " + illFormed
                + "; endings " + java.util.Arrays.toString(endings));
        for (int ending = 0; ending < 6; ending++) {
            Check.same("some runs end with " + ending, "true", Boolean.toString(endings[ending] > 0));
        }
        Check.finish("ModelTest");
    }

    private void go() {
        while (calls < MOST_CALLS) {
            switch (random.nextInt(10)) {
                case 0 -> makeTypes();
                case 1 -> wildCall();
                case 2 -> wildText();
                case 3 -> ladder();
                default -> goodText();
            }
            if (random.nextInt(3) == 0) {
                runAndLook(random.nextInt(6));
            }
        }
    }

    private String call(int which, int a, int b, int c) {
        if (calls >= MOST_CALLS) {
            return "";
        }
        calls++;
        String got = Check.answerOf(() -> onClass(which, a, b, c));
        String want = Check.answerOf(() -> onModel(which, a, b, c));
        Check.same("object " + number + ", call " + calls + " " + NAMES[which]
                + "(" + a + ", " + b + ", " + c + ")", want, got);
        return want;
    }

    private int onClass(int which, int a, int b, int c) {
        switch (which) {
            case 0: return pads.type(a);
            case 1: return pads.add(a, b, c);
            case 2: pads.wipe(a); return 0;
            case 3: return pads.compile(a);
            case 4: return pads.size(a, b);
            case 5: return pads.code(a, b, c);
            case 6: return pads.action(a, b, c);
            case 7: return pads.site(a, b, c);
            case 8: return pads.run(a);
            case 9: return pads.count(a);
            default: return pads.out(a);
        }
    }

    private int onModel(int which, int a, int b, int c) {
        switch (which) {
            case 0: return model.type(a);
            case 1: return model.add(a, b, c);
            case 2: return model.wipe(a);
            case 3: return model.compile(a);
            case 4: return model.size(a, b);
            case 5: return model.code(a, b, c);
            case 6: return model.action(a, b, c);
            case 7: return model.site(a, b, c);
            case 8: return model.run(a);
            case 9: return model.count(a);
            default: return model.out(a);
        }
    }

    private void makeTypes() {
        String answer = call(0, random.nextInt(10) - 2, 0, 0);
        if (!answer.isEmpty() && !answer.startsWith("throws")) {
            types++;
        }
    }

    private int wild() {
        int[] far = {Integer.MIN_VALUE, Integer.MAX_VALUE, -2, 100, 99};
        return random.nextInt(8) == 0 ? far[random.nextInt(far.length)] : random.nextInt(10) - 1;
    }

    private void wildCall() {
        int which = random.nextInt(NAMES.length);
        if (which != 0) {
            call(which, wild(), wild(), wild());
        }
    }

    private void wildText() {
        int function = random.nextInt(6);
        call(2, function, 0, 0);
        int length = random.nextInt(12);
        int[] likely = {3, 4, 5, 6, 7, 2, 5, 0};
        for (int i = 0; i < length; i++) {
            int statement = likely[random.nextInt(likely.length)];
            call(1, function, statement, statement == 4 && random.nextBoolean() ? -1 : 0);
        }
        compile(function);
    }

    private void goodText() {
        int function = random.nextInt(6);
        List<int[]> text = new ArrayList<>();
        // Now and then too deep, or too long: those must be refused as well.
        row(text, 0, false, random.nextInt(10) == 0 ? 6 : 5);
        call(2, function, 0, 0);
        for (int[] s : text) {
            call(1, function, s[0], s[1]);
        }
        compile(function);
        if (random.nextInt(4) == 0) {
            lookAtCode(function);
        }
    }

    /** Each function calls the next more than once: long runs that put much out. */
    private void ladder() {
        for (int function = 0; function < 6; function++) {
            List<int[]> text = new ArrayList<>();
            while (text.size() < 8 + random.nextInt(6)) {
                rung(text, function);
            }
            call(2, function, 0, 0);
            for (int[] s : text) {
                call(1, function, s[0], s[1]);
            }
            compile(function);
        }
        runAndLook(random.nextInt(3));
    }

    private void rung(List<int[]> text, int function) {
        int[] step = {function < 5 ? 1 : 2, function < 5 ? function + 1 : random.nextInt(types)};
        boolean guarded = function == 5 || random.nextInt(4) > 0;
        if (guarded) {
            text.add(new int[] {3, 0});
        }
        boolean local = random.nextInt(6) == 0;
        if (local) {
            text.add(new int[] {6, random.nextInt(100)});
        }
        text.add(step);
        if (local) {
            text.add(new int[] {5, 0});
        }
        if (guarded) {
            text.add(new int[] {4, random.nextInt(4) > 0 ? -1 : random.nextInt(types)});
            text.add(random.nextInt(6) > 0 ? new int[] {0, 7} : new int[] {7, 0});
            text.add(new int[] {5, 0});
        }
    }

    private void row(List<int[]> text, int depth, boolean inCatch, int mostDepth) {
        int length = random.nextInt(depth == 0 ? 5 : 3);
        for (int i = 0; i < length && text.size() < 18; i++) {
            int kind = random.nextInt(8);
            if (kind >= 6 && depth < mostDepth || depth == 0 && kind >= 4) {
                block(text, depth, inCatch, mostDepth, kind);
            } else if (inCatch && kind == 0) {
                text.add(new int[] {7, 0});
            } else if (kind <= 2) {
                text.add(new int[] {2, random.nextInt(types)});
            } else if (kind <= 4) {
                text.add(new int[] {1, random.nextInt(6)});
            } else {
                text.add(new int[] {0, random.nextInt(100)});
            }
        }
    }

    private void block(List<int[]> text, int depth, boolean inCatch, int mostDepth, int kind) {
        if (kind % 3 == 0) {
            text.add(new int[] {6, random.nextInt(100)});
            row(text, depth + 1, inCatch, mostDepth);
        } else {
            text.add(new int[] {3, 0});
            row(text, depth + 1, inCatch, mostDepth);
            int catches = 1 + random.nextInt(3);
            for (int i = 0; i < catches; i++) {
                text.add(new int[] {4, random.nextInt(types + 1) - 1});
                row(text, depth + 1, true, mostDepth);
            }
        }
        text.add(new int[] {5, 0});
    }

    private void compile(int function) {
        String answer = call(3, function, 0, 0);
        if (answer.startsWith("throws")) {
            illFormed++;
        } else if (!answer.isEmpty()) {
            wellFormed++;
        }
    }

    private void lookAtCode(int function) {
        for (int what = 0; what < 3; what++) {
            call(4, function, what, 0);
        }
        for (int p = 0; p < 20; p++) {
            call(5 + p % 3, function, random.nextInt(p % 3 == 0 ? 40 : 8), random.nextInt(p % 3 == 0 ? 2 : 3));
        }
    }

    private void runAndLook(int function) {
        String answer = call(8, function, 0, 0);
        if (answer.length() == 1) {
            endings[answer.charAt(0) - '0']++;
        }
        for (int what = 0; what < 6; what++) {
            call(9, what, 0, 0);
        }
        for (int i = 0; i < 6; i++) {
            call(10, random.nextInt(random.nextBoolean() ? 61 : 8), 0, 0);
        }
    }
}
