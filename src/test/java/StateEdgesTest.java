import java.util.List;

/** The edges of what an object holds: boards, what is taken, joints, the row and its bounds, images, and of what it counts. */
public final class StateEdgesTest {
    private static final Checks c = new Checks();
    private static final int NONE = DrawingBars.NONE;
    private static final int MOST = Integer.MAX_VALUE;
    private static final int LEAST = Integer.MIN_VALUE;
    private static final String WHEEL = "pin 10 10;wheel 0 5;pencil 1;";
    private static final String POINT = "pin 5 7;pencil 0;";

    public static void main(String[] args) {
        constants();
        newObject();
        fourBoards();
        fifthBoard();
        faultyBoardLeavesNothing();
        take();
        toldWithAndWithout();
        noSuchJoint();
        numbersOfAJoint();
        stepsOfTheTaken();
        markBounds();
        fullRow();
        clear();
        farByPoints();
        farByWhatIsMissing();
        farAcrossTheField();
        noSuchBoard();
        nearest();
        images();
        restoredImages();
        imageOfNoBoard();
        imageKeepsTheRow();
        counts();
        c.end();
    }

    private static void constants() {
        c.same("NONE", DrawingBars.NONE, -1);
        c.same("VOID", DrawingBars.VOID, -2147483648L);
    }

    /** Promise 1: no boards; what answers none, 0 or an exception without one. */
    private static void newObject() {
        DrawingBars bars = new DrawingBars();
        int[] told = {0, 0, 0, 0, 0, NONE, NONE};
        for (int what = 0; what < 7; what++) {
            c.same("told " + what, bars.told(what), told[what]);
        }
        for (int what = 0; what < 3; what++) {
            c.same("count " + what, bars.count(what), 0);
            c.same("layers " + what, bars.layers(what), 0);
        }
        c.same("fault", bars.fault(), NONE);
        c.same("order", bars.order(0), NONE);
        c.same("over", bars.over(), 0);
        c.same("first", bars.first(), NONE);
        c.same("now", bars.now(), NONE);
        c.same("run 0", bars.run(0), NONE);
        c.same("run 1", bars.run(1), 0);
        c.same("clear", bars.clear(), 0);
        c.same("nearest", bars.nearest(), NONE);
        c.same("restore", bars.restore(), -1);
        c.noElement("take", () -> bars.take(0));
        c.noElement("far", () -> bars.far(0));
        c.noElement("joint", () -> bars.joint(0, 0));
        c.noElement("bar", () -> bars.bar(0, 0));
        c.noElement("crossers", () -> bars.crossers(0, 1));
        c.noIndex("good", () -> bars.good(0) ? 1 : 0);
        c.noIndex("lock", () -> bars.lock(0));
        c.badState("turn", () -> bars.turn(1));
        c.badState("curve", () -> bars.curve(0));
        c.badState("lots", () -> bars.lots(1, 1, 0));
        c.same("no boards still", bars.told(4), 0);
        DrawingBars other = new DrawingBars();
        Checks.read(bars, WHEEL);
        bars.mark(1, 1);
        bars.image();
        bars.feed(1, 2, 3, 4, 5);
        c.same("another object has none of them", other.told(4) + other.count(0) + other.count(1) + other.count(2), 0);
    }

    private static void fourBoards() {
        DrawingBars bars = new DrawingBars();
        for (int i = 0; i < 4; i++) {
            c.same("board " + i, Checks.read(bars, "pin " + i + " 0;wheel 0 5;"), i);
            c.same("boards", bars.told(4), i + 1);
            c.same("taken", bars.told(5), i);
            c.same("at step 0", bars.now(), 0);
            bars.turn(i + 1);
            c.same("turned", bars.now(), i + 1);
        }
        for (int i = 0; i < 4; i++) {
            bars.take(i);
            c.same("its own pin", bars.joint(0, 1), i);
            c.same("its own place", bars.place(0, 1, 0), i + 5);
        }
    }

    /** Promise 3: -1 where there are 4, whatever the text; what stands stays. */
    private static void fifthBoard() {
        for (String text : List.of(WHEEL, "", "x", "pin 200 0;", "wheel 0 5;wheel 0 5;", "pin 0 0;pencil 1;")) {
            DrawingBars bars = Checks.made(WHEEL, POINT, POINT, WHEEL);
            bars.turn(4);
            bars.mark(1, 2);
            c.same("a fifth '" + text + "'", Checks.read(bars, text), -1);
            c.same("no fault of it", bars.fault(), NONE);
            c.same("four boards", bars.told(4), 4);
            c.same("taken as before", bars.told(5), 3);
            c.same("its step", bars.now(), 4);
            c.same("the row", bars.count(0), 1);
            c.same("the tape is empty", bars.count(2), 0);
            c.same("the first is what it was", bars.take(0), 3);
            c.same("its joints", bars.told(0), 2);
            bars.feed(0, 0, 0, 0, 0);
            c.badArgument("n beyond the tape", () -> bars.board(21));
            c.badArgument("n below 0", () -> bars.board(-1));
            c.same("it stays", bars.count(2), 20);
            c.same("less than the tape", bars.board(3), -1);
            c.same("all of it goes", bars.count(2), 0);
        }
        DrawingBars third = Checks.made(WHEEL, WHEEL, WHEEL);
        c.same("a fault where there are three", Checks.read(third, "x"), -9);
        c.same("its place", third.fault(), 0);
        c.same("three still", third.told(4), 3);
        c.same("a fourth", Checks.read(third, POINT), 3);
    }

    /** A text with a fault is no board, and the next one has nothing of it. */
    private static void faultyBoardLeavesNothing() {
        String[] faulty = {"x", "pin 200 0;", "wheel 1 65;pin 7 7;pencil 0;bar 0 1 5;stop 1=1;bar 0 0 1;",
            "pin 1 1;".repeat(17), "pin 1 1;pin 2 2;" + "bar 0 1 1;".repeat(9), "pin 0 0;" + "stop 1=1;".repeat(5),
            "wheel 0 5;wheel 0 5;", "pin 0 0;pencil 0;pencil 0;", "pencil 15;bar 14 15 1;stop x 13=1;pin 0 0;",
            "pin 0 0;stop [1=1 or not [2=2 and x 0=0", "pin 0 0;stop 1+(2-(3", "pencil 0;stop 1=1;bar 0 1 1;"};
        String[] sound = {"pin 3 4;", WHEEL, POINT + "stop x 0=6;", "pin 0 0;pin 3 4;bar 0 1 5;pencil 1;stop 1=2;stop y 1=4;",
            "pin 1 1;".repeat(16)};
        for (String bad : faulty) {
            for (String good : sound) {
                DrawingBars twice = new DrawingBars();
                c.same("faulty " + bad, Checks.read(twice, bad) < -1, true);
                c.same("no board", twice.told(4), 0);
                c.same("none taken", twice.told(5), NONE);
                c.same("no step", twice.now(), NONE);
                sameBoard(bad + " ahead of " + good, twice, good);
                DrawingBars behind = Checks.made(good);
                behind.turn(1);
                int step = behind.now();
                Checks.read(behind, bad);
                c.same("taken behind " + bad, behind.told(5), 0);
                c.same("its step", behind.now(), step);
                c.same("its joints", behind.told(0), Checks.made(good).told(0));
                c.same("boards", behind.told(4), 1);
            }
        }
    }

    private static void sameBoard(String what, DrawingBars bars, String text) {
        DrawingBars alone = Checks.made(text);
        c.same(what, Checks.read(bars, text), 0);
        for (int i = 0; i < 7; i++) {
            c.same(what + " told " + i, bars.told(i), alone.told(i));
        }
        c.same(what + " lock", bars.lock(0), alone.lock(0));
        c.same(what + " over", bars.over(), alone.over());
        c.same(what + " layers", bars.layers(1), alone.layers(1));
        c.same(what + " fault", bars.fault(), NONE);
        c.same(what + " first joint", bars.place(0, 0, 0), alone.place(0, 0, 0));
    }

    /** Promise 5: at step 0; which was; no such board. */
    private static void take() {
        DrawingBars bars = Checks.made(WHEEL, POINT, WHEEL);
        bars.turn(5);
        c.same("which was", bars.take(0), 2);
        c.same("at step 0", bars.now(), 0);
        bars.turn(-1);
        c.same("the same", bars.take(0), 0);
        c.same("at step 0", bars.now(), 0);
        bars.turn(7);
        for (int board : new int[] {3, 4, -1, MOST, LEAST}) {
            c.noElement("take " + board, () -> bars.take(board));
            c.same("taken stays", bars.told(5), 0);
            c.same("and its step", bars.now(), 7);
        }
        c.same("the last", bars.take(2), 0);
        c.same("the one between", bars.take(1), 2);
        c.same("steps", bars.told(3), 1);
        DrawingBars four = Checks.made(POINT, POINT, POINT, POINT);
        c.noElement("a fifth", () -> four.take(4));
        c.same("the fourth", four.take(3), 3);
    }

    private static void toldWithAndWithout() {
        DrawingBars bars = new DrawingBars();
        bars.image();
        Checks.read(bars, "pin 0 0;pin 3 4;bar 0 1 5;wheel 0 65;pencil 2;stop x 0=1;stop x 0=2;stop x 0=3;");
        int[] with = {3, 1, 3, 36, 1, 0, 2};
        int[] without = {0, 0, 0, 0, 1, NONE, NONE};
        for (int what = 0; what < 7; what++) {
            c.same("told " + what, bars.told(what), with[what]);
        }
        bars.restore();
        for (int what = 0; what < 7; what++) {
            c.same("without a board taken " + what, bars.told(what), without[what]);
        }
        c.same("no pencil", Checks.made("pin 0 0;").told(6), NONE);
        c.same("pencil 0", Checks.made("pin 0 0;pencil 0;").told(6), 0);
        c.same("pencil 15", Checks.made("pin 0 0;".repeat(16) + "pencil 15;").told(6), 15);
        for (int what : new int[] {7, -1, MOST, LEAST}) {
            c.badArgument("told " + what, () -> bars.told(what));
            c.badArgument("told " + what, () -> new DrawingBars().told(what));
        }
    }

    private static void noSuchJoint() {
        for (int many : new int[] {1, 16}) {
            DrawingBars bars = Checks.made("pin 1 1;".repeat(many));
            c.same("the last", bars.joint(many - 1, 1), 1);
            for (int j : new int[] {many, 16, -1, MOST, LEAST}) {
                c.noElement("joint " + j, () -> bars.joint(j, 0));
                c.noElement("joint, ahead of what " + j, () -> bars.joint(j, 6));
                c.noElement("why " + j, () -> bars.why(0, j));
                c.noElement("whole " + j, () -> bars.whole(0, j));
                c.noElement("place, ahead of what " + j, () -> bars.place(0, j, 2));
                c.noElement("side, ahead of what and v " + j, () -> bars.side(0, j, 2, 10000));
                c.noIndex("the step ahead of that " + j, () -> bars.why(1, j));
            }
        }
    }

    /** What 0 the kind, 1 to 5 the numbers as told; none, if not so many. */
    private static void numbersOfAJoint() {
        DrawingBars bars = Checks.made("pin 0 199;wheel 0 65;arm 0 99 15 1 1;arm 1 1 0 99 0;slot 0 1 0 199 0;slot 15 99 1 0 1;copy 0 15 7;"
                + "along 0 15 16;along 15 0 0;" + "pin 199 0;".repeat(7));
        int[][] due = {{0, 0, 199}, {1, 0, 65}, {2, 0, 99, 15, 1, 1}, {2, 1, 1, 0, 99, 0}, {3, 0, 1, 0, 199, 0}, {3, 15, 99, 1, 0, 1},
            {4, 0, 15, 7}, {5, 0, 15, 16}, {5, 15, 0, 0}, {0, 199, 0}};
        for (int j = 0; j < due.length; j++) {
            for (int what = 0; what <= 5; what++) {
                c.same("joint " + j + " " + what, bars.joint(j, what), what < due[j].length ? due[j][what] : NONE);
            }
            int joint = j;
            for (int what : new int[] {6, -1, MOST, LEAST}) {
                c.badArgument("what " + what, () -> bars.joint(joint, what));
            }
        }
    }

    /** Another board has other steps and joints: what is asked is what is taken. */
    private static void stepsOfTheTaken() {
        DrawingBars bars = Checks.made("pin 9 9;wheel 0 65;pin 0 0;bar 0 1 65;", "pin 1 1;");
        c.noIndex("the second has one step", () -> bars.good(1) ? 1 : 0);
        c.noElement("the second has one joint", () -> bars.why(0, 1));
        c.noElement("the second has no bar", () -> bars.bar(0, 0));
        c.badState("the second has no pencil", () -> bars.curve(0));
        bars.take(0);
        c.same("the first has 36", bars.good(35), true);
        c.same("the first has three", bars.why(35, 2), 0);
        c.same("the first has a bar", bars.holds(35, 0), 1);
        bars.turn(-1);
        c.same("its last step", bars.now(), 35);
        bars.take(1);
        c.same("step 0 of the second", bars.now(), 0);
    }

    /** Promise 29: -2,000 to 2,000 each. */
    private static void markBounds() {
        int[][] within = {{2000, 2000}, {-2000, -2000}, {2000, -2000}, {-2000, 2000}, {0, 0}};
        DrawingBars bars = Checks.made(POINT);
        for (int i = 0; i < within.length; i++) {
            c.same("point " + i, bars.mark(within[i][0], within[i][1]), i + 1);
        }
        for (int wrong : new int[] {2001, -2001, MOST, LEAST}) {
            c.badArgument("x " + wrong, () -> bars.mark(wrong, 0));
            c.badArgument("y " + wrong, () -> bars.mark(0, wrong));
            c.badArgument("x ahead of the edge of y " + wrong, () -> bars.mark(wrong, 2000));
            c.badArgument("both " + wrong, () -> bars.mark(wrong, wrong));
        }
        c.same("they stay", bars.count(0), 5);
        c.same("another", bars.mark(1, 1), 6);
    }

    /** -1: there are 36; they stay as they are. */
    private static void fullRow() {
        DrawingBars bars = Checks.made("pin 70 70;wheel 0 65;pin 5 7;pencil 2;");
        for (int i = 1; i <= 36; i++) {
            c.same("mark " + i, bars.mark(5, 7), i);
        }
        c.same("all are met", bars.far(0), 0);
        c.same("a 37th", bars.mark(6, 7), -1);
        c.same("a 38th", bars.mark(0, 0), -1);
        c.badArgument("a wrong 37th", () -> bars.mark(2001, 0));
        c.same("36", bars.count(0), 36);
        c.same("they stay", bars.far(0), 0);
        c.same("clear", bars.clear(), 36);
        c.same("a first again", bars.mark(6, 7), 1);
        c.same("and nothing of the others", bars.far(0), 1);
    }

    private static void clear() {
        DrawingBars bars = Checks.made(WHEEL);
        c.same("of none", bars.clear(), 0);
        bars.mark(1, 1);
        bars.turn(2);
        bars.image();
        c.same("of one", bars.clear(), 1);
        c.same("none", bars.count(0), 0);
        c.same("again", bars.clear(), 0);
        c.same("turned still", bars.now(), 2);
        c.same("images still", bars.count(1), 1);
        c.same("the image has it", bars.restore() + bars.count(0), 1);
    }

    /** Promise 31: the i-th point to the pencil as drawn at its step i, from 0 on, along and across. */
    private static void farByPoints() {
        DrawingBars bars = Checks.made(WHEEL, "pin 0 0;pin 6 0;copy 0 0 1;along 0 2 1;pencil 3;");
        c.same("no points", bars.far(0), 0);
        int[] xs = {15, 14, 13, 10, 7, 6, 5, 6, 7, 10, 13, 14};
        int[] ys = {10, 13, 14, 15, 14, 13, 10, 7, 6, 5, 6, 7};
        for (int i = 0; i < 12; i++) {
            bars.mark(xs[i], ys[i]);
            c.same("met up to " + i, bars.far(0), 0);
        }
        bars.turn(0);
        for (int i = 13; i <= 36; i++) {
            bars.mark(10, 10);
            c.same("no such step " + i, bars.far(0), (i - 12) * 1000);
        }
        bars.clear();
        int[][] off = {{16, 10, 1}, {14, 10, 1}, {15, 11, 1}, {15, 9, 1}, {16, 11, 2}, {14, 9, 2}, {-15, -10, 50}};
        for (int[] each : off) {
            bars.mark(each[0], each[1]);
            c.same("off by " + each[2], bars.far(0), each[2]);
            bars.clear();
        }
        bars.mark(-2, 0);
        c.same("as drawn, cut down", bars.far(1), 0);
        bars.mark(-2, 0);
        c.same("the one step is not asked twice", bars.far(1), 1000);
    }

    /** 1,000: no such step, not good, no pencil. */
    private static void farByWhatIsMissing() {
        DrawingBars bars = Checks.made("pin 5 7;", POINT + "stop 1=1;", POINT, WHEEL + "stop x 1=14;");
        int[][] due = {{1000, 1000, 0, 13}, {2000, 2000, 1000, 1013}, {3000, 3000, 2000, 1013 + 15}};
        for (int i = 0; i < 3; i++) {
            bars.mark(5, 7);
            for (int board = 0; board < 4; board++) {
                c.same("board " + board + " by " + (i + 1), bars.far(board), due[i][board]);
            }
        }
        bars.take(0);
        c.same("whichever is taken", bars.far(3), 1028);
        bars.clear();
        for (int board = 0; board < 4; board++) {
            c.same("without points " + board, bars.far(board), 0);
        }
        DrawingBars unplaced = Checks.made("pin 0 0;pin 9 0;arm 0 4 1 4 0;pencil 2;");
        unplaced.mark(0, 0);
        c.same("not placed", unplaced.far(0), 1000);
        DrawingBars over = Checks.made("pin 0 0;copy 1 0 0;pencil 0;");
        over.mark(0, 0);
        c.same("another is left over", over.far(0), 1000);
    }

    /** One that is there may be farther than one that is missing. */
    private static void farAcrossTheField() {
        String far = "pin 0 0;pin 125 125;along 0 1 16;along 0 2 16;copy 0 0 3;pencil ";
        DrawingBars bars = Checks.made(far + "3;", far + "4;");
        bars.mark(-2000, -2000);
        c.same("from corner to corner", bars.far(0), 8000);
        c.same("at the corner", bars.far(1), 0);
        c.same("nearest", bars.nearest(), 1);
    }

    private static void noSuchBoard() {
        for (int many = 1; many <= 4; many++) {
            DrawingBars bars = new DrawingBars();
            for (int i = 0; i < many; i++) {
                Checks.read(bars, POINT);
            }
            c.same("the last", bars.far(many - 1), 0);
            for (int board : new int[] {many, 4, -1, MOST, LEAST}) {
                c.noElement("far " + board + " of " + many, () -> bars.far(board));
                c.noElement("take " + board + " of " + many, () -> bars.take(board));
            }
        }
    }

    /** Promise 32: least far, of these the first; none without boards. */
    private static void nearest() {
        c.same("without boards", new DrawingBars().nearest(), NONE);
        for (int way = 0; way < 256; way++) {
            DrawingBars bars = new DrawingBars();
            int best = 0;
            for (int i = 0; i < 4; i++) {
                int x = way >> 2 * i & 3;
                Checks.read(bars, x == 3 ? "pin 0 0;" : "pin " + x + " 0;pencil 0;");
                best = x < (way >> 2 * best & 3) ? i : best;
            }
            c.same("without points the first", bars.nearest(), 0);
            bars.mark(0, 0);
            c.same("nearest of " + way, bars.nearest(), best);
            bars.mark(0, 0);
            c.same("nearest of " + way + " by two points", bars.nearest(), best);
        }
        DrawingBars released = new DrawingBars();
        released.image();
        Checks.read(released, POINT);
        released.restore();
        c.same("none taken", released.nearest(), 0);
    }

    /** Promises 34 and 35: -1 where there are 3, -1 where there is none. */
    private static void images() {
        DrawingBars bars = Checks.made(WHEEL);
        c.same("none to restore", bars.restore(), -1);
        for (int i = 1; i <= 3; i++) {
            bars.turn(1);
            bars.mark(i, i);
            c.same("image " + i, bars.image(), i);
            c.same("count " + i, bars.count(1), i);
        }
        bars.turn(4);
        bars.mark(9, 9);
        c.same("a fourth", bars.image(), -1);
        c.same("a fourth again", bars.image(), -1);
        c.same("three", bars.count(1), 3);
        c.same("its step stays", bars.now(), 7);
        c.same("its row stays", bars.count(0), 4);
        for (int left = 2; left >= 0; left--) {
            c.same("left", bars.restore(), left);
            c.same("step", bars.now(), left + 1);
            c.same("points", bars.count(0), left + 1);
            c.same("count", bars.count(1), left);
        }
        bars.turn(2);
        c.same("none left", bars.restore(), -1);
        c.same("its step stays", bars.now(), 3);
        c.same("its row stays", bars.count(0), 1);
        c.same("a first again", bars.image(), 1);
    }

    /** All is as in the latest: which board is taken, its step and the row. */
    private static void restoredImages() {
        DrawingBars bars = Checks.made(WHEEL, POINT, "pin 70 70;wheel 0 65;");
        bars.turn(-1);
        bars.image();
        bars.take(0);
        bars.turn(5);
        bars.mark(15, 10);
        bars.image();
        bars.take(1);
        bars.mark(1, 1);
        Checks.feed(bars, "pin 1 1;");
        c.same("the latest", bars.restore(), 1);
        c.same("taken", bars.told(5), 0);
        c.same("its step", bars.now(), 5);
        c.same("its row", bars.count(0), 1);
        c.same("its point", bars.far(0), 0);
        c.same("the tape is not in it", bars.count(2), 20);
        c.same("boards are not in it", bars.board(8), 3);
        c.same("the first", bars.restore(), 0);
        c.same("taken", bars.told(5), 2);
        c.same("its step", bars.now(), 35);
        c.same("its row", bars.count(0), 0);
        c.same("boards stay", bars.told(4), 4);
        c.same("turns on from there", bars.turn(1) + bars.now(), 1);
    }

    private static void imageOfNoBoard() {
        DrawingBars bars = new DrawingBars();
        bars.mark(5, 7);
        c.same("of no board", bars.image(), 1);
        Checks.read(bars, POINT);
        bars.clear();
        c.same("restored", bars.restore(), 0);
        c.same("none is taken", bars.told(5), NONE);
        c.same("no step", bars.now(), NONE);
        c.same("no order", bars.order(0), NONE);
        c.same("no run", bars.run(0), NONE);
        c.same("the row", bars.count(0), 1);
        c.same("the board is there", bars.far(0), 0);
        c.badState("no turn", () -> bars.turn(1));
        c.badState("no lots", () -> bars.lots(1, 1, 0));
        c.badState("no curve", () -> bars.curve(0));
        c.noIndex("no step", () -> bars.good(0) ? 1 : 0);
        c.noElement("no joint", () -> bars.joint(0, 0));
        c.same("which was taken", bars.take(0), NONE);
        c.same("now it is", bars.now(), 0);
    }

    /** An image keeps the points themselves, and is not touched by what comes behind it. */
    private static void imageKeepsTheRow() {
        DrawingBars bars = Checks.made("pin 70 70;wheel 0 65;pin 5 7;pencil 2;");
        for (int i = 0; i < 36; i++) {
            bars.mark(5, 7);
        }
        bars.image();
        bars.clear();
        for (int i = 0; i < 20; i++) {
            bars.mark(0, 0);
        }
        bars.image();
        bars.clear();
        for (int i = 0; i < 36; i++) {
            bars.mark(6, 7);
        }
        c.same("as marked", bars.far(0), 36);
        bars.restore();
        c.same("twenty", bars.count(0), 20);
        c.same("as they were", bars.far(0), 240);
        c.same("one more", bars.mark(5, 8), 21);
        c.same("one more", bars.far(0), 241);
        bars.restore();
        c.same("thirty-six", bars.count(0), 36);
        c.same("as they were", bars.far(0), 0);
        c.same("full again", bars.mark(5, 7), -1);
    }

    /** Promise 36: none for others. */
    private static void counts() {
        DrawingBars bars = Checks.made(POINT);
        bars.mark(1, 1);
        bars.mark(1, 1);
        bars.mark(1, 1);
        bars.image();
        bars.image();
        bars.feed(0, 0, 0, 0, 0);
        int[] due = {3, 2, 20};
        for (int what = 0; what < 3; what++) {
            c.same("count " + what, bars.count(what), due[what]);
        }
        for (int what : new int[] {3, 4, -1, -2, MOST, LEAST}) {
            c.same("count " + what, bars.count(what), NONE);
        }
    }
}
