import java.util.ArrayList;
import java.util.List;
import java.util.NoSuchElementException;

/**
 * The document once more, by other means than the class: texts become trees, the
 * trees become code with labels, and a raised exception becomes a list of landings
 * that is made at once and gone through by the U instructions.
 */
final class Model {
    private static final String LETTERS = "PCTRGDEUX";

    private static final class Label {
        int place = -1;
    }

    private record Instruction(char letter, int x, Label aim) {
        int value() {
            return aim == null ? x : aim.place;
        }
    }

    private static final class Action {
        int filter;
        Label landing;
        int next;

        Action(int filter, Label landing, int next) {
            this.filter = filter;
            this.landing = landing;
            this.next = next;
        }
    }

    private record Site(int first, int last, int head) {
    }

    private static final class Node {
        int statement;
        int x;
        List<Node> row = new ArrayList<>();
        List<Node> catches = new ArrayList<>();
    }

    private static final class Code {
        final List<Instruction> instructions = new ArrayList<>();
        final List<Action> actions = new ArrayList<>();
        final List<int[]> raising = new ArrayList<>();
        final List<Site> sites = new ArrayList<>();

        int headAt(int place) {
            for (Site s : sites) {
                if (s.first <= place && place <= s.last) {
                    return s.head;
                }
            }
            throw new AssertionError("place " + place + " in no site");
        }
    }

    private static final class Frame {
        final int function;
        int at = 0;
        final List<Integer> caught = new ArrayList<>();

        Frame(int function) {
            this.function = function;
        }
    }

    /** One thing that unwinding does: in which frame, which action, and whether it ends there. */
    private record Landing(Frame frame, Action action, boolean handler) {
    }

    private final List<Integer> parents = new ArrayList<>(List.of(-1));
    private final List<List<int[]>> texts = new ArrayList<>();
    private final Code[] codes = new Code[6];
    private List<Integer> out = new ArrayList<>();
    private final int[] counts = {0, 0, 0, 0, 0, -1};

    private final List<Frame> frames = new ArrayList<>();
    private final List<Landing> unwinding = new ArrayList<>();
    private int raisedType;

    // The text that is being read, and how far.
    private List<int[]> reading;
    private int position;

    Model() {
        for (int i = 0; i < 6; i++) {
            texts.add(new ArrayList<>());
        }
    }

    int type(int parent) {
        if (parent != -1 && !isType(parent)) {
            throw new IllegalArgumentException();
        }
        if (parents.size() == 8) {
            throw new IllegalStateException();
        }
        parents.add(parent);
        return parents.size() - 1;
    }

    int add(int function, int statement, int x) {
        needFunction(function);
        boolean good = switch (statement) {
            case 0, 6 -> 0 <= x && x <= 99;
            case 1 -> 0 <= x && x <= 5;
            case 2 -> isType(x);
            case 4 -> x == -1 || isType(x);
            case 3, 5, 7 -> x == 0;
            default -> false;
        };
        if (!good) {
            throw new IllegalArgumentException();
        }
        if (texts.get(function).size() == 20) {
            throw new IllegalStateException();
        }
        texts.get(function).add(new int[] {statement, x});
        return texts.get(function).size();
    }

    int wipe(int function) {
        needFunction(function);
        texts.get(function).clear();
        return 0;
    }

    int compile(int function) {
        needFunction(function);
        reading = texts.get(function);
        position = 0;
        List<Node> row = readRow(0, false);
        if (position != reading.size()) {
            throw new IllegalStateException();
        }
        Code code = new Code();
        writeRow(code, row, -1);
        emit(code, 'X', 0, null);
        gatherSites(code);
        codes[function] = code;
        return code.instructions.size();
    }

    int size(int function, int what) {
        needFunction(function);
        if (what < 0 || what > 2) {
            throw new IllegalArgumentException();
        }
        Code code = codes[function];
        if (code == null) {
            return 0;
        }
        return what == 0 ? code.instructions.size() : what == 1 ? code.actions.size() : code.sites.size();
    }

    int code(int function, int p, int what) {
        if (!hasCode(function) || p < 0 || p >= codes[function].instructions.size() || what < 0 || what > 1) {
            throw new NoSuchElementException();
        }
        Instruction i = codes[function].instructions.get(p);
        return what == 0 ? LETTERS.indexOf(i.letter) : i.value();
    }

    int action(int function, int k, int what) {
        if (!hasCode(function) || k < 0 || k >= codes[function].actions.size() || what < 0 || what > 2) {
            throw new NoSuchElementException();
        }
        Action a = codes[function].actions.get(k);
        return what == 0 ? a.filter : what == 1 ? a.landing.place : a.next;
    }

    int site(int function, int k, int what) {
        if (!hasCode(function) || k < 0 || k >= codes[function].sites.size() || what < 0 || what > 2) {
            throw new NoSuchElementException();
        }
        Site s = codes[function].sites.get(k);
        return what == 0 ? s.first : what == 1 ? s.last : s.head;
    }

    int run(int function) {
        needFunction(function);
        if (!hasCode(function)) {
            throw new IllegalStateException();
        }
        out = new ArrayList<>();
        java.util.Arrays.fill(counts, 0);
        counts[5] = -1;
        frames.clear();
        frames.add(new Frame(function));
        counts[4] = 1;
        int end = -1;
        while (end < 0) {
            end = counts[1] == 300 ? 3 : step();
        }
        counts[0] = out.size();
        return end;
    }

    int count(int what) {
        if (what < 0 || what > 5) {
            throw new IllegalArgumentException();
        }
        return counts[what];
    }

    int out(int k) {
        if (k < 0 || k >= out.size()) {
            throw new NoSuchElementException();
        }
        return out.get(k);
    }

    private boolean isType(int t) {
        return 0 <= t && t < parents.size();
    }

    private static void needFunction(int function) {
        if (function < 0 || function > 5) {
            throw new IllegalArgumentException();
        }
    }

    private boolean hasCode(int function) {
        return 0 <= function && function <= 5 && codes[function] != null;
    }

    private int peek() {
        return position < reading.size() ? reading.get(position)[0] : -1;
    }

    private void need(boolean condition) {
        if (!condition) {
            throw new IllegalStateException();
        }
    }

    private List<Node> readRow(int depth, boolean inCatch) {
        need(depth <= 5);
        List<Node> row = new ArrayList<>();
        while (peek() != -1 && peek() != 4 && peek() != 5) {
            row.add(readNode(depth, inCatch));
        }
        return row;
    }

    private Node readNode(int depth, boolean inCatch) {
        Node node = readHead();
        need(node.statement != 7 || inCatch);
        if (node.statement == 6) {
            node.row = readRow(depth + 1, inCatch);
            need(peek() == 5);
            position++;
        } else if (node.statement == 3) {
            node.row = readRow(depth + 1, inCatch);
            need(peek() == 4);
            while (peek() == 4) {
                Node part = readHead();
                part.row = readRow(depth + 1, true);
                node.catches.add(part);
            }
            need(peek() == 5);
            position++;
        }
        return node;
    }

    private Node readHead() {
        Node node = new Node();
        node.statement = reading.get(position)[0];
        node.x = reading.get(position)[1];
        position++;
        return node;
    }

    private void emit(Code code, char letter, int x, Label aim) {
        code.instructions.add(new Instruction(letter, x, aim));
    }

    private void writeRow(Code code, List<Node> row, int head) {
        for (Node node : row) {
            switch (node.statement) {
                case 0 -> emit(code, 'P', node.x, null);
                case 1, 2, 7 -> {
                    code.raising.add(new int[] {code.instructions.size(), head});
                    emit(code, node.statement == 1 ? 'C' : node.statement == 2 ? 'T' : 'R', node.x, null);
                }
                case 6 -> writeLocal(code, node, head);
                default -> writeTry(code, node, head);
            }
        }
    }

    private void here(Code code, Label label) {
        label.place = code.instructions.size();
    }

    private void writeLocal(Code code, Node node, int head) {
        Label landing = new Label();
        Label behind = new Label();
        code.actions.add(new Action(-2, landing, head));
        writeRow(code, node.row, code.actions.size() - 1);
        emit(code, 'D', node.x, null);
        emit(code, 'G', 0, behind);
        here(code, landing);
        emit(code, 'D', node.x, null);
        emit(code, 'U', 0, null);
        here(code, behind);
    }

    private void writeTry(Code code, Node node, int head) {
        Label behind = new Label();
        List<Label> landings = new ArrayList<>();
        int first = code.actions.size();
        for (int i = 0; i < node.catches.size(); i++) {
            landings.add(new Label());
            boolean last = i == node.catches.size() - 1;
            code.actions.add(new Action(node.catches.get(i).x, landings.get(i), last ? head : first + i + 1));
        }
        writeRow(code, node.row, first);
        emit(code, 'G', 0, behind);
        for (int i = 0; i < node.catches.size(); i++) {
            Label end = new Label();
            here(code, landings.get(i));
            code.actions.add(new Action(-2, end, head));
            writeRow(code, node.catches.get(i).row, code.actions.size() - 1);
            emit(code, 'E', 0, null);
            emit(code, 'G', 0, behind);
            here(code, end);
            emit(code, 'E', 0, null);
            emit(code, 'U', 0, null);
        }
        here(code, behind);
    }

    private void gatherSites(Code code) {
        int i = 0;
        while (i < code.raising.size()) {
            int j = i;
            while (j + 1 < code.raising.size() && code.raising.get(j + 1)[1] == code.raising.get(i)[1]) {
                j++;
            }
            code.sites.add(new Site(code.raising.get(i)[0], code.raising.get(j)[0], code.raising.get(i)[1]));
            i = j + 1;
        }
    }

    private Frame top() {
        return frames.get(frames.size() - 1);
    }

    /** One step; the frame stays at a C until the called frame is gone by X. */
    private int step() {
        counts[1]++;
        Frame f = top();
        Instruction i = codes[f.function].instructions.get(f.at);
        switch (i.letter) {
            case 'P', 'D':
                if (out.size() == 60) {
                    return 5;
                }
                out.add(i.letter == 'P' ? i.x : 100 + i.x);
                counts[2] += i.letter == 'D' ? 1 : 0;
                break;
            case 'C':
                if (!hasCode(i.x)) {
                    return 4;
                }
                if (frames.size() == 8) {
                    return 2;
                }
                frames.add(new Frame(i.x));
                counts[4] = Math.max(counts[4], frames.size());
                return -1;
            case 'T':
                return raise(i.x);
            case 'R':
                return raise(f.caught.get(f.caught.size() - 1));
            case 'G':
                f.at = i.value();
                return -1;
            case 'E':
                f.caught.remove(f.caught.size() - 1);
                break;
            case 'U':
                return land();
            default:
                frames.remove(frames.size() - 1);
                if (frames.isEmpty()) {
                    return 0;
                }
                top().at++;
                return -1;
        }
        f.at++;
        return -1;
    }

    private int raise(int type) {
        List<Landing> way = new ArrayList<>();
        for (int n = frames.size() - 1; n >= 0; n--) {
            Frame f = frames.get(n);
            Code code = codes[f.function];
            for (int k = code.headAt(f.at); k != -1; k = code.actions.get(k).next) {
                Action a = code.actions.get(k);
                boolean handler = a.filter == -1 || a.filter >= 0 && isA(type, a.filter);
                if (handler || a.filter == -2) {
                    way.add(new Landing(f, a, handler));
                }
                if (handler) {
                    counts[3]++;
                    raisedType = type;
                    unwinding.clear();
                    unwinding.addAll(way);
                    return land();
                }
            }
        }
        counts[5] = type;
        return 1;
    }

    private int land() {
        Landing next = unwinding.remove(0);
        while (top() != next.frame) {
            frames.remove(frames.size() - 1);
        }
        if (next.handler) {
            next.frame.caught.add(raisedType);
        }
        next.frame.at = next.action.landing.place;
        return -1;
    }

    private boolean isA(int type, int other) {
        return type == other || parents.get(type) != -1 && isA(parents.get(type), other);
    }
}
