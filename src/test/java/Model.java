import java.nio.charset.StandardCharsets;
import java.util.ArrayDeque;
import java.util.ArrayList;
import java.util.Arrays;
import java.util.Deque;
import java.util.HashMap;
import java.util.List;
import java.util.Map;
import java.util.NoSuchElementException;

/** The face once more, upon the oracle's boards: what each call of a run on one object is due to answer or to throw. */
final class Model {
    private record Kept(int taken, int step, List<int[]> row) {
    }

    private final List<Oracle> boards = new ArrayList<>();
    private final Map<Oracle, int[]> layers = new HashMap<>();
    private final Deque<Kept> images = new ArrayDeque<>();
    private List<int[]> row = new ArrayList<>();
    private byte[] tape = new byte[0];
    private int taken = -1;
    private int step;
    private int faultPlace = -1;

    // What is asked of arguments, in the order in which the face tells it

    private static void within(int number, int least, int most) {
        if (number < least || number > most) {
            throw new IllegalArgumentException();
        }
    }

    private Oracle board() {
        return taken < 0 ? null : boards.get(taken);
    }

    private Oracle needBoard() {
        if (taken < 0) {
            throw new IllegalStateException();
        }
        return boards.get(taken);
    }

    private Oracle needPencil() {
        if (needBoard().pencil < 0) {
            throw new IllegalStateException();
        }
        return board();
    }

    private Oracle needStep(int wanted) {
        if (taken < 0 || wanted < 0 || wanted >= board().steps) {
            throw new IndexOutOfBoundsException();
        }
        return board();
    }

    private Oracle needJoint(int joint) {
        if (taken < 0 || joint < 0 || joint >= board().joints.size()) {
            throw new NoSuchElementException();
        }
        return board();
    }

    private Oracle needBar(int bar) {
        if (taken < 0 || bar < 0 || bar >= board().bars.size()) {
            throw new NoSuchElementException();
        }
        return board();
    }

    private Oracle needTold(int board) {
        if (board < 0 || board >= boards.size()) {
            throw new NoSuchElementException();
        }
        return boards.get(board);
    }

    // The promises

    int feed(int a, int b, int c, int d, int e) {
        if (tape.length == 600) {
            return -1;
        }
        tape = Arrays.copyOf(tape, tape.length + 20);
        java.nio.ByteBuffer.wrap(tape, tape.length - 20, 20).putInt(a).putInt(b).putInt(c).putInt(d).putInt(e);
        return tape.length;
    }

    int board(int n) {
        within(n, 0, tape.length);
        String text = new String(tape, 0, n, StandardCharsets.ISO_8859_1);
        tape = new byte[0];
        faultPlace = -1;
        if (boards.size() == 4) {
            return -1;
        }
        Oracle told = new Oracle(text);
        if (told.faultKind != 0) {
            faultPlace = told.faultPlace;
            return told.faultKind - 10;
        }
        boards.add(told);
        step = 0;
        taken = boards.size() - 1;
        return taken;
    }

    int fault() {
        return faultPlace;
    }

    int take(int board) {
        needTold(board);
        int was = taken;
        taken = board;
        step = 0;
        return was;
    }

    int told(int what) {
        within(what, 0, 6);
        if (what == 4) {
            return boards.size();
        }
        if (what == 5) {
            return taken;
        }
        if (taken < 0) {
            return what == 6 ? -1 : 0;
        }
        return List.of(board().joints.size(), board().bars.size(), board().stops.size(), board().steps, 0, 0,
                board().pencil).get(what);
    }

    int joint(int joint, int what) {
        int[] numbers = needJoint(joint).joints.get(joint);
        within(what, 0, 5);
        return what < numbers.length ? numbers[what] : -1;
    }

    int bar(int bar, int what) {
        int[] numbers = needBar(bar).bars.get(bar);
        within(what, 0, 2);
        return numbers[what];
    }

    int order(int i) {
        return taken < 0 || i < 0 || i >= board().order.size() ? -1 : board().order.get(i);
    }

    int over() {
        return taken < 0 ? 0 : board().over;
    }

    int why(int step, int joint) {
        needStep(step);
        return needJoint(joint).why[step][joint];
    }

    int place(int step, int joint, int what) {
        needStep(step);
        needJoint(joint);
        within(what, 0, 1);
        return board().why[step][joint] != 0 ? Integer.MIN_VALUE : board().drawn(step, joint, what);
    }

    int side(int step, int joint, int what, int v) {
        needStep(step);
        needJoint(joint);
        within(what, 0, 1);
        within(v, -9999, 9999);
        return board().side(step, joint, what, v);
    }

    int whole(int step, int joint) {
        needStep(step);
        needJoint(joint);
        return board().why[step][joint] != 0 ? -1 : board().isWhole(step, joint) ? 1 : 0;
    }

    boolean good(int step) {
        return needStep(step).good(step);
    }

    int lock(int step) {
        return needStep(step).locks[step];
    }

    int first() {
        for (int s = 0; taken >= 0 && s < board().steps; s++) {
            if (board().locks[s] != -1) {
                return s;
            }
        }
        return -1;
    }

    int holds(int step, int bar) {
        needStep(step);
        return needBar(bar).holds(step, bar);
    }

    boolean cross(int step, int bar, int other) {
        needStep(step);
        twoBars(bar, other);
        return board().cross(step, bar, other);
    }

    int crossers(int bar, int other) {
        twoBars(bar, other);
        return board().crossers(bar, other);
    }

    private void twoBars(int bar, int other) {
        needBar(bar);
        needBar(other);
        if (bar == other) {
            throw new IllegalArgumentException();
        }
    }

    int layers(int what) {
        within(what, 0, 2);
        return taken < 0 ? 0 : layers.computeIfAbsent(board(), Oracle::layers)[what];
    }

    int turn(int n) {
        within(n, -100, 100);
        Oracle board = needBoard();
        int went = 0;
        for (; went < Math.abs(n); went++) {
            int next = (step + (n > 0 ? 1 : board.steps - 1)) % board.steps;
            if (!board.good(next)) {
                break;
            }
            step = next;
        }
        return went;
    }

    int now() {
        return taken < 0 ? -1 : step;
    }

    int run(int what) {
        within(what, 0, 1);
        return taken < 0 ? what - 1 : board().run()[what];
    }

    int curve(int what) {
        within(what, 0, 4);
        return needPencil().curve()[what];
    }

    int jump(int what) {
        within(what, 0, 1);
        return needPencil().jump()[what];
    }

    boolean like(int what) {
        within(what, 0, 2);
        return needPencil().like(what);
    }

    int larger(int joint, int other, int pin, int m) {
        needJoint(joint);
        needJoint(other);
        if (needJoint(pin).joints.get(pin)[0] != 0) {
            throw new IllegalArgumentException();
        }
        within(m, -40, 40);
        return board().larger(joint, other, pin, m);
    }

    int mark(int x, int y) {
        within(x, -2000, 2000);
        within(y, -2000, 2000);
        if (row.size() == 36) {
            return -1;
        }
        row.add(new int[] {x, y});
        return row.size();
    }

    int clear() {
        int many = row.size();
        row = new ArrayList<>();
        return many;
    }

    int far(int board) {
        return needTold(board).far(row);
    }

    int nearest() {
        int best = -1;
        for (int i = boards.size() - 1; i >= 0; i--) {
            best = best < 0 || far(i) <= far(best) ? i : best;
        }
        return best;
    }

    int lots(int n, int seed, int what) {
        within(n, 1, 200);
        within(what, 0, 1);
        return needBoard().lots(step, n, seed)[what];
    }

    int image() {
        if (images.size() == 3) {
            return -1;
        }
        images.push(new Kept(taken, step, new ArrayList<>(row)));
        return images.size();
    }

    int restore() {
        if (images.isEmpty()) {
            return -1;
        }
        Kept latest = images.pop();
        taken = latest.taken();
        step = latest.step();
        row = latest.row();
        return images.size();
    }

    int count(int what) {
        return what == 0 ? row.size() : what == 1 ? images.size() : what == 2 ? tape.length : -1;
    }
}
