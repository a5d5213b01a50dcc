import java.util.function.IntFunction;

/** Each promise by itself: what it answers, the edges that the document names, what it throws and in which order. */
public final class PromisesTest {
    private static final Checks c = new Checks();
    private static final int VOID = DrawingBars.VOID;
    private static final int NONE = DrawingBars.NONE;

    /** The wheel round 10 10, an arm between it and a pin, a point along that arm. */
    private static final String CRANK = "pin 10 10;wheel 0 5;pin 20 10;arm 1 5 2 5 0;along 2 3 8;"
            + "bar 1 3 5;bar 2 4 10;bar 0 1 6;pencil 3;";
    /** A wheel that never locks, drawn by itself. */
    private static final String WHEEL = "pin 10 10;wheel 0 5;pencil 1;";
    private static final String PINS = "pin 0 0;pin 10 10;pin 0 10;pin 10 0;pin 5 5;"
            + "bar 0 1 14;bar 2 3 14;bar 0 2 10;bar 4 3 7;";

    public static void main(String[] args) {
        newObject();
        feed();
        board();
        takeAndTold();
        jointAndBar();
        orderAndOver();
        whyAndPlace();
        exactness();
        touching();
        edges();
        wheels();
        roots();
        locks();
        holds();
        crossing();
        layers();
        turning();
        runs();
        curve();
        likeItself();
        larger();
        rows();
        lots();
        images();
        stops();
        withoutBoard();
        throwsInOrder();
        c.end();
    }

    private static void newObject() {
        DrawingBars bars = new DrawingBars();
        c.same("NONE", DrawingBars.NONE, -1);
        c.same("VOID", DrawingBars.VOID, Integer.MIN_VALUE);
        c.same("told(4)", bars.told(4), 0);
        c.same("told(5)", bars.told(5), NONE);
        c.same("fault()", bars.fault(), NONE);
        c.same("now()", bars.now(), NONE);
        c.same("nearest()", bars.nearest(), NONE);
        c.same("restore()", bars.restore(), -1);
        c.same("clear()", bars.clear(), 0);
    }

    private static void feed() {
        DrawingBars bars = new DrawingBars();
        c.same("feed", bars.feed(0x70696e20, 0x30203030, 0x3b000000, 0, 0), 20);
        c.same("bytes, the highest first", bars.board(9), 0);
        c.same("the tape is empty", bars.count(2), 0);
        for (int i = 1; i <= 30; i++) {
            c.same("feed " + i, bars.feed(-1, -1, -1, -1, -1), i * 20);
        }
        c.same("feed 31", bars.feed(0, 0, 0, 0, 0), NONE);
        c.same("count(2)", bars.count(2), 600);
        c.same("a tape of bytes 255", bars.board(600), -9);
        c.same("fault()", bars.fault(), 0);
        c.same("count(2)", bars.count(2), 0);
        c.same("feed behind it", bars.feed(0x20202020, 0x20202020, 0x20202020, 0x20202020, 0x20202020), 20);
        c.same("board(20)", bars.board(20), -6);
        c.same("fault()", bars.fault(), 20);
    }

    private static void board() {
        DrawingBars bars = new DrawingBars();
        bars.feed(0x70696e20, 0x30203030, 0x3b000000, 0, 0);
        c.badArgument("board(21)", () -> bars.board(21));
        c.badArgument("board(-1)", () -> bars.board(-1));
        c.badArgument("board(least)", () -> bars.board(Integer.MIN_VALUE));
        c.same("the tape stays", bars.count(2), 20);
        c.same("fault() stays", bars.fault(), NONE);
        c.same("less than the tape", bars.board(7), -9);
        c.same("fault()", bars.fault(), 7);
        c.same("all of it goes", bars.count(2), 0);
        c.same("board 0", Checks.read(bars, WHEEL), 0);
        c.same("fault()", bars.fault(), NONE);
        bars.turn(3);
        c.same("a fault", Checks.read(bars, "pin 0 900;"), -8);
        c.same("its place", bars.fault(), 6);
        c.same("taken stays", bars.told(5), 0);
        c.same("its step stays", bars.now(), 3);
        for (int i = 1; i < 4; i++) {
            c.same("board " + i, Checks.read(bars, CRANK), i);
            c.same("taken", bars.told(5), i);
            c.same("at step", bars.now(), 0);
        }
        bars.turn(2);
        c.same("a fifth", Checks.read(bars, WHEEL), -1);
        c.same("the tape behind a fifth", bars.count(2), 0);
        c.same("fault() of a fifth", bars.fault(), NONE);
        c.same("boards", bars.told(4), 4);
        c.same("taken", bars.told(5), 3);
        c.same("step", bars.now(), 2);
        fifthBoard(bars);
    }

    /** Where there are four boards no text is read, be it faulty or not: no fault is told of it. */
    private static void fifthBoard(DrawingBars bars) {
        for (String text : new String[] {"", "pin 0 0", "pin 0 900;", "wheel 0 5;wheel 0 5;", "pin 0 0;bar 0 1 5;", WHEEL}) {
            c.same("a fifth '" + text + "'", Checks.read(bars, text), -1);
            c.same("no place of a fault in '" + text + "'", bars.fault(), NONE);
            c.same("the tape behind '" + text + "'", bars.count(2), 0);
        }
        bars.feed(0, 0, 0, 0, 0);
        c.badArgument("board(21) with four boards", () -> bars.board(21));
        c.badArgument("board(-1) with four boards", () -> bars.board(-1));
        c.same("the tape stays", bars.count(2), 20);
        c.same("board(0) with four boards", bars.board(0), -1);
        c.same("all of it goes", bars.count(2), 0);
        c.same("boards", bars.told(4), 4);
        c.same("taken", bars.told(5), 3);
        c.same("step", bars.now(), 2);
        DrawingBars last = Checks.made(WHEEL, WHEEL, WHEEL);
        c.same("a fault ahead of the fourth", Checks.read(last, "pin 0 0"), -9);
        c.same("its place", last.fault(), 7);
        c.same("the fourth", Checks.read(last, WHEEL), 3);
        c.same("fault() of the fourth", last.fault(), NONE);
        DrawingBars image = Checks.made(WHEEL);
        image.image();
        for (int i = 1; i < 4; i++) {
            c.same("board " + i, Checks.read(image, WHEEL), i);
        }
        image.restore();
        c.same("boards stay behind an image", Checks.read(image, "pin 0 0"), -1);
        c.same("and what is taken", image.told(5), 0);
    }

    private static void takeAndTold() {
        DrawingBars bars = Checks.made(WHEEL, PINS + "stop x 0=1;stop x 0=2;");
        c.same("told(0)", bars.told(0), 5);
        c.same("told(1)", bars.told(1), 4);
        c.same("told(2)", bars.told(2), 2);
        c.same("told(3)", bars.told(3), 1);
        c.same("told(4)", bars.told(4), 2);
        c.same("told(5)", bars.told(5), 1);
        c.same("told(6)", bars.told(6), NONE);
        c.same("take(0)", bars.take(0), 1);
        c.same("told(3)", bars.told(3), 12);
        c.same("told(6)", bars.told(6), 1);
        bars.turn(5);
        c.same("take(0) again", bars.take(0), 0);
        c.same("at step 0", bars.now(), 0);
        c.noElement("take(2)", () -> bars.take(2));
        c.noElement("take(-1)", () -> bars.take(-1));
        c.same("taken stays", bars.told(5), 0);
        c.badArgument("told(7)", () -> bars.told(7));
        c.badArgument("told(-1)", () -> bars.told(-1));
        int[] steps = {5, 12, 25, 20, 65, 36};
        for (int i = 0; i < 6; i += 2) {
            c.same("steps", Checks.made("pin 0 0;wheel 0 " + steps[i] + ";").told(3), steps[i + 1]);
        }
        c.same("steps of a wheel left over", Checks.made("wheel 0 25;").told(3), 20);
    }

    private static void jointAndBar() {
        DrawingBars bars = Checks.made("pin 1 2;wheel 0 5;arm 0 3 1 4 1;slot 0 7 1 9 0;copy 2 1 0;along 0 1 16;"
                + "bar 2 1 999;");
        int[][] due = {{0, 1, 2}, {1, 0, 5}, {2, 0, 3, 1, 4, 1}, {3, 0, 7, 1, 9, 0}, {4, 2, 1, 0}, {5, 0, 1, 16}};
        for (int j = 0; j < due.length; j++) {
            for (int what = 0; what <= 5; what++) {
                c.same("joint " + j + " " + what, bars.joint(j, what), what < due[j].length ? due[j][what] : NONE);
            }
        }
        c.noElement("joint(6, 0)", () -> bars.joint(6, 0));
        c.noElement("joint(-1, 9)", () -> bars.joint(-1, 9));
        c.badArgument("joint(0, 6)", () -> bars.joint(0, 6));
        c.badArgument("joint(0, -1)", () -> bars.joint(0, -1));
        c.same("bar(0, 0)", bars.bar(0, 0), 2);
        c.same("bar(0, 1)", bars.bar(0, 1), 1);
        c.same("bar(0, 2)", bars.bar(0, 2), 999);
        c.noElement("bar(1, 0)", () -> bars.bar(1, 0));
        c.noElement("bar(-1, 7)", () -> bars.bar(-1, 7));
        c.badArgument("bar(0, 3)", () -> bars.bar(0, 3));
        c.badArgument("bar(0, -1)", () -> bars.bar(0, -1));
    }

    private static void orderAndOver() {
        DrawingBars bars = Checks.made("copy 3 3 4;copy 5 5 5;pin 1 1;copy 4 4 4;pin 2 2;along 1 2 3;copy 0 0 0;");
        int[] due = {2, 4, 3, 0, 6};
        for (int i = -1; i < 9; i++) {
            c.same("order " + i, bars.order(i), i >= 0 && i < due.length ? due[i] : NONE);
        }
        c.same("order(least)", bars.order(Integer.MIN_VALUE), NONE);
        c.same("order(most)", bars.order(Integer.MAX_VALUE), NONE);
        c.same("over", bars.over(), 1 << 1 | 1 << 5);
        c.same("itself", Checks.made("wheel 0 5;").over(), 1);
        c.same("none over", Checks.made(PINS).over(), 0);
        DrawingBars sixteen = Checks.made("copy 1 1 1;".repeat(16));
        c.same("all over", sixteen.over(), 65535);
        c.same("none come", sixteen.order(0), NONE);
        c.same("behind a left over one", sixteen.why(0, 15), 5);
    }

    private static void whyAndPlace() {
        DrawingBars bars = Checks.made(
                "pin 0 0;pin 6 0;arm 0 5 1 5 0;arm 2 5 0 5 0;copy 2 3 3;copy 3 3 0;arm 3 1 0 1 0;"
                + "copy 5 0 0;copy 0 0 6;arm 6 1 3 1 0;slot 3 1 0 1 0;along 3 5 1;along 3 5 16;along 0 3 4;along 0 1 1;along 14 0 1;");
        int[] due = {0, 0, 0, 0, 0, 0, 2, 2, 1, 1, 2, 2, 2, 0, 0, 2};
        for (int j = 0; j < due.length; j++) {
            c.same("why " + j, bars.why(0, j), due[j]);
            c.same("placed " + j, bars.place(0, j, 0) != VOID, due[j] == 0);
            c.same("side " + j, bars.side(0, j, 1, 0) != VOID, due[j] == 0);
            c.same("whole " + j, bars.whole(0, j) != NONE, due[j] == 0);
        }
        c.same("arm x", bars.place(0, 2, 0), 3);
        c.same("arm y", bars.place(0, 2, 1), 4);
        c.same("half x", bars.place(0, 14, 0), 1);
        c.same("half whole", bars.whole(0, 14), 0);
        c.same("whole way x", bars.whole(0, 13), 0);
        c.same("lock", bars.lock(0), 62);

        DrawingBars three = Checks.made("pin 0 0;pin 0 0;pin 100 0;arm 0 5 1 5 0;arm 0 49 2 50 0;arm 0 99 2 0001 0;"
                + "slot 0 9 0 10 1;slot 0 9 1 10 1;slot 0 9 1 9 1;arm 0 20 1 5 0;arm 0 1 2 99 1;arm 0 50 2 60 1;");
        int[] why = {0, 0, 0, 3, 3, 0, 3, 3, 0, 3, 0, 0};
        for (int j = 0; j < why.length; j++) {
            c.same("no such place " + j, three.why(0, j), why[j]);
        }
        c.same("inside each other", Checks.made("pin 0 0;pin 3 0;arm 0 9 1 5 0;").why(0, 2), 3);
        c.same("just touching inside", Checks.made("pin 0 0;pin 3 0;arm 0 9 1 6 0;").why(0, 2), 0);
    }

    private static void exactness() {
        DrawingBars bars = Checks.made("pin 0 0;pin 10 0;arm 0 10 1 10 0;arm 0 10 1 10 1;slot 0 10 0 5 0;slot 0 10 0 5 1;"
                + "slot 0 10 1 5 0;slot 0 10 1 5 1;along 0 2 2;copy 0 0 2;along 1 0 6;");
        int[][] due = {{5, 8}, {5, -9}, {-9, 5}, {8, 5}, {5, -9}, {5, 8}, {2, 4}, {-5, -9}, {-5, 0}};
        for (int i = 0; i < due.length; i++) {
            c.same("x " + (i + 2), bars.place(0, i + 2, 0), due[i][0]);
            c.same("y " + (i + 2), bars.place(0, i + 2, 1), due[i][1]);
        }
        c.same("below the root", bars.side(0, 2, 1, 8), 1);
        c.same("above the root", bars.side(0, 2, 1, 9), -1);
        c.same("exactly", bars.side(0, 2, 0, 5), 0);
        c.same("minus root", bars.side(0, 3, 1, -9), 1);
        c.same("minus root", bars.side(0, 3, 1, -8), -1);
        c.same("one coordinate is not whole", bars.whole(0, 2), 0);
        c.same("two and a half", bars.side(0, 8, 0, 2), 1);
        c.same("two and a half", bars.side(0, 8, 0, 3), -1);
        c.same("minus five", bars.side(0, 10, 0, -5), 0);
        c.same("far below", bars.side(0, 2, 1, -9999), 1);
        c.same("far above", bars.side(0, 2, 1, 9999), -1);
        c.same("minus one and a half", Checks.made("pin 0 0;pin 6 0;copy 0 0 1;along 0 2 1;").place(0, 3, 0), -2);
        c.same("near a whole number", Checks.made("pin 0 0;slot 0 99 0 1 1;").place(0, 1, 0), 98);
        c.same("near a whole number", Checks.made("pin 99 0;slot 0 99 0 1 0;").place(0, 1, 0), 0);
        DrawingBars fifths = Checks.made("pin 0 0;pin 5 0;arm 0 3 1 4 0;along 0 2 4;copy 2 0 0;bar 0 2 3;bar 2 4 1;bar 1 4 4;");
        c.same("a fraction without root", fifths.whole(0, 2), 0);
        c.same("nine fifths", fifths.place(0, 2, 0), 1);
        c.same("twelve fifths", fifths.place(0, 2, 1), 2);
        c.same("three off", fifths.holds(0, 0), 1);
        c.same("at one place", fifths.holds(0, 1), 0);
        c.same("four off", fifths.holds(0, 2), 1);
    }

    private static void touching() {
        for (int side = 0; side < 2; side++) {
            DrawingBars bars = Checks.made("pin 0 0;pin 10 0;arm 0 4 1 6 " + side + ";slot 0 5 0 5 " + side
                    + ";slot 1 5 1 15 " + side + ";arm 0 15 1 5 " + side + ";");
            int[][] due = {{4, 0}, {0, 5}, {15, 0}, {15, 0}};
            for (int i = 0; i < 4; i++) {
                c.same("touching x " + i, bars.place(0, i + 2, 0), due[i][0]);
                c.same("touching y " + i, bars.place(0, i + 2, 1), due[i][1]);
                c.same("touching whole " + i, bars.whole(0, i + 2), 1);
            }
        }
        DrawingBars left = Checks.made("pin 0 0;pin 0 8;arm 0 5 1 5 0;arm 0 5 1 5 1;arm 1 5 0 5 0;");
        c.same("left of the way up", left.place(0, 2, 0), -3);
        c.same("right of the way up", left.place(0, 3, 0), 3);
        c.same("left of the way down", left.place(0, 4, 0), 3);
        c.same("height", left.place(0, 2, 1), 4);
    }

    private static void edges() {
        DrawingBars bars = Checks.made("pin 0 0;pin 125 0;along 0 1 16;along 0 2 16;pin 0 1;copy 3 4 0;pin 1 0;copy 3 6 0;"
                + "copy 0 0 3;copy 8 0 6;copy 3 0 6;copy 10 0 6;copy 11 0 6;copy 12 0 6;slot 13 10 0 9 1;slot 13 10 0 9 0;");
        int[] due = {0, 0, 0, 0, 0, 0, 0, 4, 0, 4, 0, 0, 0, 0, 4, 0};
        for (int j = 0; j < due.length; j++) {
            c.same("edge why " + j, bars.why(0, j), due[j]);
        }
        c.same("at the edge", bars.place(0, 3, 0), 2000);
        c.same("at the other edge", bars.place(0, 8, 0), -2000);
        DrawingBars up = Checks.made("pin 0 0;pin 0 125;along 0 1 16;along 0 2 16;pin 0 1;copy 3 4 0;copy 0 0 3;copy 6 0 4;");
        c.same("above", up.why(0, 5), 4);
        c.same("below", up.why(0, 7), 4);
        c.same("at the lower edge", up.place(0, 6, 1), -2000);
        c.same("told by one beyond", Checks.made("pin 0 0;pin 199 0;along 0 1 16;along 0 2 16;copy 3 0 0;").why(0, 4), 1);
    }

    private static void wheels() {
        int[] radius = {5, 25, 65};
        for (int r : radius) {
            DrawingBars bars = Checks.made("pin 7 9;wheel 0 " + r + ";");
            java.util.List<int[]> points = Oracle.wheelPoints(r);
            c.same("steps of " + r, bars.told(3), points.size());
            c.same("to the right", bars.place(0, 1, 0), 7 + r);
            for (int s = 0; s < points.size(); s++) {
                c.same("wheel " + r + " x at " + s, bars.place(s, 1, 0), 7 + points.get(s)[0]);
                c.same("wheel " + r + " y at " + s, bars.place(s, 1, 1), 9 + points.get(s)[1]);
                c.same("wheel whole", bars.whole(s, 1), 1);
                c.same("pin stays", bars.place(s, 0, 0), 7);
            }
        }
        DrawingBars late = Checks.made("wheel 1 5;copy 2 2 3;pin 3 4;pin 5 5;");
        c.same("round a later joint", late.place(3, 0, 0), 1);
        c.same("round a later joint", late.place(3, 0, 1), 8);
        c.same("round a broken joint", Checks.made("pin 0 0;slot 0 9 0 4 1;wheel 1 5;").why(0, 2), 2);
    }

    private static void roots() {
        DrawingBars bars = Checks.made("pin 0 0;pin 10 0;arm 0 10 1 10 0;arm 0 10 1 10 1;along 0 2 2;along 0 1 1;along 0 1 3;"
                + "copy 2 1 0;bar 0 2 10;bar 2 3 17;bar 2 4 5;bar 2 7 10;bar 5 6 5;bar 4 3 9;bar 4 7 999;bar 0 5 2;");
        int[] due = {1, -1, 1, 1, -1, -1, 0, 0};
        for (int i = 0; i < due.length; i++) {
            c.same("holds " + i, bars.holds(0, i), due[i]);
        }
        DrawingBars quarter = Checks.made("pin 0 0;pin 10 0;arm 0 6 1 7 0;along 0 2 1;along 0 2 3;along 2 0 16;copy 2 2 0;"
                + "bar 3 4 3;bar 3 2 4;bar 5 2 24;bar 6 2 6;bar 6 5 30;bar 5 0 18;bar 1 2 7;bar 0 3 1;");
        int[] quarters = {1, 0, 1, 1, 1, 1, 1, 0};
        for (int i = 0; i < quarters.length; i++) {
            c.same("quarters " + i, quarter.holds(0, i), quarters[i]);
        }
    }

    private static void locks() {
        DrawingBars bars = Checks.made(CRANK);
        c.same("good", bars.lock(0), NONE);
        c.same("by no such place", bars.lock(3), 33);
        c.same("told by that", bars.why(3, 4), 1);
        c.same("first", bars.first(), 3);
        c.same("good(0)", bars.good(0), true);
        c.same("good(3)", bars.good(3), false);
        DrawingBars order = Checks.made("arm 4 1 2 1 0;pin 0 0;pin 1 0;copy 3 3 3;pin 50 0;arm 1 1 4 1 0;slot 6 1 0 1 1;stop 1=1;");
        c.same("by the order, left over ones behind", order.lock(0), 3);
        c.same("the first of the order is not the least", Checks.made(
                "arm 4 1 2 1 0;pin 0 0;pin 1 0;arm 1 1 2 9 0;copy 1 1 1;stop 1=1;").lock(0), 33);
        c.same("left over by number", Checks.made("pin 0 0;copy 2 2 2;copy 2 2 2;stop 1=1;").lock(0), 15);
        c.same("left over behind all", Checks.made("copy 0 0 0;pin 0 0;arm 1 1 2 1 0;pin 9 0;arm 1 1 3 1 0;").lock(0), 43);
        c.same("the first stop", Checks.made("pin 0 0;stop 1=2;stop 2=2;stop 3=3;").lock(0), 1001);
        c.same("the fourth stop", Checks.made("pin 0 0;stop 1=2;stop 2=1;stop 3=2;stop 3=3;").lock(0), 1003);
        c.same("no stop holds", Checks.made("pin 0 0;stop 1=2;stop 2=1;").lock(0), NONE);
        c.same("never locked", Checks.made(WHEEL).first(), NONE);
        c.same("locked from the first", Checks.made("pin 0 0;stop 1=1;").first(), 0);
        c.same("by beyond", Checks.made("pin 0 0;pin 199 0;along 0 1 16;along 0 2 16;").lock(0), 34);
    }

    private static void holds() {
        DrawingBars bars = Checks.made(CRANK);
        c.same("holds", bars.holds(0, 0), 1);
        c.same("not so long", bars.holds(0, 2), 0);
        c.same("not placed", bars.holds(3, 0), NONE);
        c.same("placed, though the step is locked", bars.holds(3, 2), 0);
        DrawingBars pins = Checks.made("pin 0 0;pin 3 4;pin 3 5;pin 0 0;bar 0 1 5;bar 0 2 5;bar 0 2 6;bar 0 3 1;");
        int[] due = {1, 0, 0, 0};
        for (int i = 0; i < due.length; i++) {
            c.same("pins " + i, pins.holds(0, i), due[i]);
        }
        c.same("a way of 5 by its square root", Checks.made("pin 0 0;pin 2 1;bar 0 1 2;").holds(0, 0), 0);
    }

    private static boolean crossed(String a, String b, String c1, String d) {
        return Checks.made("pin " + a + ";pin " + b + ";pin " + c1 + ";pin " + d + ";bar 0 1 1;bar 2 3 1;").cross(0, 0, 1);
    }

    private static void crossing() {
        c.same("a cross", crossed("0 0", "9 9", "0 9", "9 0"), true);
        c.same("a T", crossed("0 0", "10 0", "5 0", "5 9"), true);
        c.same("an L, end on end", crossed("0 0", "10 0", "10 0", "10 9"), true);
        c.same("a T that does not reach", crossed("0 0", "10 0", "5 1", "5 9"), false);
        c.same("beside", crossed("0 0", "10 0", "11 0", "12 0"), false);
        c.same("on one line, overlapping", crossed("0 0", "10 0", "8 0", "12 0"), true);
        c.same("on one line, one in the other", crossed("0 0", "10 10", "4 4", "6 6"), true);
        c.same("on one line, end on end", crossed("0 0", "10 10", "20 20", "10 10"), true);
        c.same("on one line, apart", crossed("0 0", "4 4", "5 5", "9 9"), false);
        c.same("level", crossed("0 0", "9 0", "0 1", "9 1"), false);
        c.same("a point on a bar", crossed("0 0", "9 9", "4 4", "4 4"), true);
        c.same("a point beside a bar", crossed("0 0", "9 9", "4 5", "4 5"), false);
        c.same("a point behind a bar", crossed("0 0", "9 9", "10 10", "10 10"), false);
        c.same("two points", crossed("4 4", "4 4", "4 4", "4 4"), true);
        c.same("two points apart", crossed("4 4", "4 4", "4 5", "4 5"), false);
        c.same("lines that would meet beyond", crossed("0 0", "1 1", "9 0", "0 9"), false);
        DrawingBars bars = Checks.made(PINS);
        c.same("a joint in common", bars.cross(0, 0, 2), false);
        c.same("crossers", bars.crossers(0, 1), 0);
        c.same("not crossers", bars.crossers(2, 3), NONE);
        c.same("both ways", bars.cross(0, 3, 0), true);
        DrawingBars drawn = Checks.made("pin 0 0;pin 3 3;along 0 1 1;pin 0 5;pin 9 0;bar 0 4 1;bar 2 3 1;");
        c.same("as drawn: a quarter is cut down", drawn.cross(0, 0, 1), true);
        DrawingBars locked = Checks.made("pin 0 0;pin 9 9;pin 0 9;pin 9 0;arm 0 1 1 1 0;bar 0 1 1;bar 2 3 1;bar 4 2 1;");
        c.same("at a locked step", locked.cross(0, 0, 1), true);
        c.same("but no crossers", locked.crossers(0, 1), NONE);
        c.same("not placed", locked.cross(0, 0, 2), false);
        DrawingBars wheel = Checks.made("pin 10 10;wheel 0 5;pin 8 0;pin 8 20;bar 0 1 5;bar 2 3 20;stop x 1<8 and y 1>10;");
        c.same("the first good step at which they do", wheel.crossers(0, 1), 6);
        c.same("the locked one at which they do", wheel.cross(5, 0, 1), true);
        c.same("its lock", wheel.lock(5), 1000);
        c.same("and before", wheel.cross(3, 1, 0), false);
    }

    private static void layers() {
        DrawingBars bars = Checks.made(PINS);
        c.same("how many", bars.layers(0), 2);
        c.same("the way", bars.layers(1), 1212);
        c.same("clique, of two as great the least", bars.layers(2), 3);
        DrawingBars none = Checks.made("pin 0 0;");
        for (int what = 0; what < 3; what++) {
            c.same("without bars " + what, none.layers(what), 0);
        }
        DrawingBars one = Checks.made("pin 0 0;pin 1 1;" + "bar 0 1 1;".repeat(8));
        c.same("eight that do not cross", one.layers(0), 1);
        c.same("their way", one.layers(1), 11111111);
        c.same("their clique", one.layers(2), 1);
        StringBuilder star = new StringBuilder();
        for (int i = 0; i < 8; i++) {
            star.append("pin ").append(i).append(" 0;pin ").append(7 - i).append(" 9;");
        }
        for (int i = 0; i < 8; i++) {
            star.append("bar ").append(2 * i).append(" ").append(2 * i + 1).append(" 1;");
        }
        DrawingBars all = Checks.made(star.toString());
        c.same("eight that all cross", all.layers(0), 8);
        c.same("their way", all.layers(1), 12345678);
        c.same("their clique", all.layers(2), 255);
        c.badArgument("layers(3)", () -> all.layers(3));
        c.badArgument("layers(-1)", () -> all.layers(-1));
        DrawingBars locked = Checks.made(PINS + "stop 1=1;");
        c.same("no good step, no crossers", locked.layers(0), 1);
    }

    private static void turning() {
        DrawingBars bars = Checks.made(CRANK);
        c.same("to the lock", bars.turn(100), 2);
        c.same("now", bars.now(), 2);
        c.same("no further", bars.turn(1), 0);
        c.same("none", bars.turn(0), 0);
        c.same("back, round", bars.turn(-100), 4);
        c.same("now", bars.now(), 10);
        c.same("on, round", bars.turn(3), 3);
        c.same("now", bars.now(), 1);
        DrawingBars free = Checks.made(WHEEL);
        c.same("all the way", free.turn(100), 100);
        c.same("now", free.now(), 4);
        c.same("all the way back", free.turn(-99), 99);
        c.same("now", free.now(), 1);
        c.badArgument("turn(101)", () -> free.turn(101));
        c.badArgument("turn(-101)", () -> free.turn(-101));
        c.badArgument("turn(least)", () -> free.turn(Integer.MIN_VALUE));
        c.same("one good step", Checks.made("pin 0 0;").turn(7), 7);
        c.same("one locked step", Checks.made("pin 0 0;stop 1=1;").turn(7), 0);
        DrawingBars first = Checks.made(WHEEL + "stop x 1=15;");
        c.same("from a locked step", first.turn(20), 11);
        c.same("now", first.now(), 11);
    }

    private static void runs() {
        c.same("round", Checks.made(CRANK).run(0), 10);
        c.same("how many", Checks.made(CRANK).run(1), 5);
        c.same("all good", Checks.made(WHEEL).run(0), 0);
        c.same("all of them", Checks.made(WHEEL).run(1), 12);
        c.same("none", Checks.made(WHEEL + "stop 1=1;").run(0), NONE);
        c.same("none", Checks.made(WHEEL + "stop 1=1;").run(1), 0);
        c.same("two as long, the first", Checks.made(WHEEL + "stop y 1=10;").run(0), 1);
        c.same("its length", Checks.made(WHEEL + "stop y 1=10;").run(1), 5);
        c.same("all but the first", Checks.made(WHEEL + "stop x 1=15;").run(0), 1);
        c.same("all but one, round", Checks.made(WHEEL + "stop x 1=5;").run(0), 7);
        c.same("all but one, round", Checks.made(WHEEL + "stop x 1=5;").run(1), 11);
        c.same("alone", Checks.made("pin 0 0;").run(1), 1);
        c.badArgument("run(2)", () -> Checks.made(WHEEL).run(2));
        c.badArgument("run(-1)", () -> new DrawingBars().run(-1));
    }

    private static void each(String what, IntFunction<Integer> call, int... due) {
        for (int i = 0; i < due.length; i++) {
            c.same(what + " " + i, call.apply(i), due[i]);
        }
    }

    private static void curve() {
        each("wheel", Checks.made(WHEEL)::curve, 12, 1, 11, 11, 40);
        each("wheel jump", Checks.made(WHEEL)::jump, 4, 0);
        each("crank", Checks.made(CRANK)::curve, 4, 0, 4, 5, 8);
        each("crank jump", Checks.made(CRANK)::jump, 5, 11);
        each("pin", Checks.made("pin 3 4;pencil 0;")::curve, 1, 1, 1, 1, 0);
        each("pin jump", Checks.made("pin 3 4;pencil 0;")::jump, 0, 0);
        each("none good", Checks.made("pin 3 4;pencil 0;stop 1=1;")::curve, 0, 0, 0, 0, 0);
        each("none good jump", Checks.made("pin 3 4;pencil 0;stop 1=1;")::jump, 0, NONE);
        each("one good", Checks.made(WHEEL + "stop x 1<15;")::curve, 1, 0, 1, 1, 0);
        each("one good jump", Checks.made(WHEEL + "stop x 1<15;")::jump, 0, NONE);
        each("two good", Checks.made(WHEEL + "stop x 1<15 and not x 1=10;")::curve, 3, 0, 6, 11, 0);
        each("right half", Checks.made(WHEEL + "stop x 1<10;")::curve, 7, 0, 6, 11, 20);
        each("right half jump", Checks.made(WHEEL + "stop x 1<10;")::jump, 4, 0);
        each("a still pencil", Checks.made("pin 3 4;wheel 0 25;pencil 0;")::curve, 1, 1, 1, 1, 0);
        each("a still pencil jump", Checks.made("pin 3 4;wheel 0 25;pencil 0;stop x 1=28;")::jump, 0, 1);
        String corner = "pin 0 0;pin 125 125;along 0 1 16;along 0 2 16;copy 0 0 3;";
        each("at the upper edge", Checks.made(corner + "pencil 3;")::curve, 1, 1, 1, 1, 0);
        each("at the lower edge", Checks.made(corner + "pencil 4;")::curve, 1, 1, 1, 1, 0);
        DrawingBars wheel = Checks.made(WHEEL);
        c.badArgument("curve(5)", () -> wheel.curve(5));
        c.badArgument("curve(-1)", () -> wheel.curve(-1));
        c.badArgument("jump(2)", () -> wheel.jump(2));
        c.badArgument("like(3)", () -> wheel.like(3) ? 1 : 0);
        c.badState("no pencil", () -> Checks.made("pin 0 0;").curve(0));
        c.badState("no pencil", () -> Checks.made("pin 0 0;").jump(0));
        c.badState("no pencil", () -> Checks.made("pin 0 0;").like(0) ? 1 : 0);
    }

    private static void like(String text, boolean left, boolean above, boolean half) {
        DrawingBars bars = Checks.made(text);
        c.same(text + " mirrored left for right", bars.like(0), left);
        c.same(text + " mirrored above for below", bars.like(1), above);
        c.same(text + " turned by half", bars.like(2), half);
    }

    private static void likeItself() {
        like(WHEEL, true, true, true);
        like(WHEEL + "stop x 1<10;", false, true, false);
        like(WHEEL + "stop y 1<10;", true, false, false);
        like(WHEEL + "stop x 1+y 1>20;", false, false, false);
        like(WHEEL + "stop [x 1<10 or y 1<10] and [x 1>10 or y 1>10];", false, false, true);
        like(WHEEL + "stop 1=1;", true, true, true);
        like("pin 3 4;pencil 0;", true, true, true);
        like(CRANK, false, false, false);
    }

    private static void larger() {
        String pantograph = "pin 0 0;pin 9 2;wheel 1 5;along 0 2 6;along 2 3 2;pin 99 99;along 0 2 16;pin 1 0;copy 0 0 2;";
        DrawingBars bars = Checks.made(pantograph);
        c.same("six quarters", bars.larger(3, 2, 0, 6), 1);
        c.same("seven", bars.larger(3, 2, 0, 7), 0);
        c.same("another pin", bars.larger(3, 2, 1, 6), 0);
        c.same("four times", bars.larger(6, 2, 0, 16), 1);
        c.same("smaller", bars.larger(2, 6, 0, 1), 1);
        c.same("the other way", bars.larger(8, 2, 0, -4), 1);
        c.same("itself", bars.larger(2, 2, 0, 4), 1);
        c.same("the pin itself", bars.larger(0, 2, 0, 0), 1);
        c.same("not that", bars.larger(0, 2, 0, 1), 0);
        c.same("both the pin", bars.larger(0, 0, 0, -40), 1);
        c.same("40", bars.larger(7, 7, 7, 40), 1);
        c.noElement("no joint", () -> bars.larger(9, 2, 0, 6));
        c.noElement("no joint", () -> bars.larger(3, 9, 0, 6));
        c.noElement("no joint", () -> bars.larger(3, 2, 9, 6));
        c.noElement("no joint, ahead of m", () -> bars.larger(3, 2, -1, 41));
        c.badArgument("no pin", () -> bars.larger(3, 2, 2, 6));
        c.badArgument("m", () -> bars.larger(3, 2, 0, 41));
        c.badArgument("m", () -> bars.larger(3, 2, 0, -41));
        DrawingBars rooted = Checks.made(CRANK);
        c.same("of one root", rooted.larger(4, 3, 2, 8), 1);
        c.same("of one root, not so", rooted.larger(4, 3, 2, 4), 0);
        c.same("a root and a whole one", rooted.larger(3, 1, 0, 4), 0);
        DrawingBars unlike = Checks.made("pin 0 0;wheel 0 5;pin 9 0;arm 1 7 2 7 0;arm 1 7 2 7 1;");
        c.same("unlike roots", unlike.larger(3, 4, 0, 4), NONE);
        c.same("unlike quarters", Checks.made("pin 0 0;pin 1 0;along 0 1 1;along 0 1 2;").larger(3, 2, 0, 8), NONE);
        c.same("false first, unlike later", Checks.made("pin 0 0;wheel 0 5;pin 2 0;along 0 1 2;along 0 1 1;slot 0 5 1 3 0;")
                .larger(3, 4, 2, 4), NONE);
        c.same("without good steps", Checks.made("pin 0 0;pin 9 9;pin 7 3;stop 1=1;").larger(1, 2, 0, 4), 1);
        c.same("without good steps, unlike", Checks.made("pin 0 0;pin 1 0;along 0 1 1;along 0 1 2;stop 1=1;").larger(3, 2, 0, 8), 1);
    }

    private static void rows() {
        DrawingBars bars = Checks.made(WHEEL, CRANK, PINS);
        c.same("no points", bars.far(0), 0);
        c.same("no points, the first", bars.nearest(), 0);
        c.same("mark", bars.mark(17, 14), 1);
        c.same("crank", bars.far(1), 0);
        c.same("wheel", bars.far(0), 2 + 4);
        c.same("no pencil", bars.far(2), 1000);
        c.same("nearest", bars.nearest(), 1);
        c.same("mark", bars.mark(18, 14), 2);
        c.same("mark", bars.mark(-2000, 2000), 3);
        c.same("crank", bars.far(1), bars.far(1));
        c.same("mark", bars.mark(0, 0), 4);
        c.same("a locked step", bars.far(1), Math.abs(bars(1, 2, 0) + 2000) + Math.abs(bars(1, 2, 1) - 2000) + 1000);
        c.badArgument("mark(2001, 0)", () -> bars.mark(2001, 0));
        c.badArgument("mark(0, -2001)", () -> bars.mark(0, -2001));
        c.badArgument("mark(least, 0)", () -> bars.mark(Integer.MIN_VALUE, 0));
        c.same("count(0)", bars.count(0), 4);
        for (int i = 5; i <= 36; i++) {
            c.same("mark " + i, bars.mark(2000, -2000), i);
        }
        c.same("a 37th", bars.mark(0, 0), -1);
        c.badArgument("a wrong 37th", () -> bars.mark(0, 2001));
        c.same("count(0)", bars.count(0), 36);
        c.noElement("far(3)", () -> bars.far(3));
        c.noElement("far(-1)", () -> bars.far(-1));
        c.same("clear", bars.clear(), 36);
        c.same("clear again", bars.clear(), 0);
        c.same("far of none", bars.far(2), 0);
        DrawingBars alike = Checks.made("pin 0 0;pencil 0;", "pin 5 5;pencil 0;", "pin 5 5;pencil 0;");
        alike.mark(5, 4);
        alike.mark(5, 4);
        c.same("steps that are not there", alike.far(1), 1001);
        c.same("of two as near the first", alike.nearest(), 1);
    }

    private static int bars(int board, int step, int what) {
        DrawingBars bars = Checks.made(WHEEL, CRANK, PINS);
        bars.take(board);
        return bars.place(step, bars.told(6), what);
    }

    private static void lots() {
        DrawingBars bars = Checks.made(WHEEL);
        int[][] due = {{1, 1}, {2, 1}, {3, 1}, {200, 7}, {200, -1}, {17, Integer.MIN_VALUE}};
        for (int[] call : due) {
            int step = 0;
            long seed = call[1];
            for (int i = 0; i < call[0]; i++) {
                seed = (seed * 1103515245L + 12345L) & 0xffffffffL;
                step = (int) Math.floorMod(step + (seed >> 16 & 0x7fff) % 3 - 1, 12L);
            }
            c.same("lots " + call[0] + " " + call[1], bars.lots(call[0], call[1], 0), step);
            c.same("stops", bars.lots(call[0], call[1], 1), 0);
        }
        c.same("nothing stays turned", bars.now(), 0);
        c.same("seed 1: 16838 leaves 2, one on", bars.lots(1, 1, 0), 1);
        DrawingBars lone = Checks.made("pin 0 0;stop 1=1;");
        c.same("no step to go to", lone.lots(1, 1, 1), 1);
        c.same("no step to go to", lone.lots(1, 1, 0), 0);
        int seed = 0;
        while ((seed * 1103515245 + 12345 >>> 16 & 0x7fff) % 3 != 1) {
            seed++;
        }
        c.same("none is no stop", lone.lots(1, seed, 1), 0);
        c.same("a good one goes", Checks.made("pin 0 0;").lots(200, 5, 1), 0);
        c.badArgument("lots(0, 1, 0)", () -> bars.lots(0, 1, 0));
        c.badArgument("lots(201, 1, 0)", () -> bars.lots(201, 1, 0));
        c.badArgument("lots(1, 1, 2)", () -> bars.lots(1, 1, 2));
        c.badArgument("lots(1, 1, -1)", () -> bars.lots(1, 1, -1));
        bars.turn(5);
        c.same("from the step as it is", bars.lots(1, 1, 0), 6);
        DrawingBars locked = Checks.made(CRANK);
        locked.turn(2);
        c.same("a stop", locked.lots(1, 1, 1), 1);
        c.same("stays", locked.lots(1, 1, 0), 2);
    }

    private static void images() {
        DrawingBars bars = new DrawingBars();
        c.same("of nothing", bars.image(), 1);
        Checks.read(bars, WHEEL);
        bars.turn(3);
        bars.mark(1, 2);
        c.same("second", bars.image(), 2);
        Checks.read(bars, CRANK);
        bars.turn(1);
        bars.mark(3, 4);
        c.same("third", bars.image(), 3);
        c.same("a fourth", bars.image(), -1);
        c.same("count(1)", bars.count(1), 3);
        bars.clear();
        bars.mark(9, 9);
        bars.feed(1, 2, 3, 4, 5);
        c.same("restore", bars.restore(), 2);
        c.same("taken", bars.told(5), 1);
        c.same("now", bars.now(), 1);
        c.same("row", bars.count(0), 2);
        c.same("tape stays", bars.count(2), 20);
        int far = bars.far(0);
        c.same("restore", bars.restore(), 1);
        c.same("taken", bars.told(5), 0);
        c.same("now", bars.now(), 3);
        c.same("row", bars.count(0), 1);
        c.same("the row's points", bars.far(0), 14 + 8);
        c.same("and before", far, 22 + Math.abs(14 - 3) + Math.abs(13 - 4));
        c.same("image again", bars.image(), 2);
        c.same("restore", bars.restore(), 1);
        c.same("restore", bars.restore(), 0);
        c.same("taken", bars.told(5), NONE);
        c.same("now", bars.now(), NONE);
        c.same("boards stay", bars.told(4), 2);
        c.same("row", bars.count(0), 0);
        c.same("joints", bars.told(0), 0);
        c.badState("turn", () -> bars.turn(1));
        c.noIndex("good", () -> bars.good(0) ? 1 : 0);
        c.same("far still", bars.far(0), 0);
        c.same("nearest still", bars.nearest(), 0);
        c.same("restore", bars.restore(), -1);
        c.same("take", bars.take(1), NONE);
        int[] due = {0, 0, 20};
        for (int what = -2; what < 6; what++) {
            c.same("count " + what, bars.count(what), what >= 0 && what < 3 ? due[what] : NONE);
        }
    }

    private static void stop(String condition, boolean holds) {
        c.same("stop " + condition, Checks.made("pin 3 4;pin 10 0;copy 0 0 1;along 0 1 1;stop " + condition + ";").good(0), !holds);
    }

    private static void stops() {
        stop("x 0=3", true);
        stop("x 0<3", false);
        stop("x 0>2", true);
        stop("y 0=4 and x 1=10", true);
        stop("y 0=5 and x 1=10", false);
        stop("y 0=5 or x 1=10", true);
        stop("1=1 or 1=2 and 1=2", true);
        stop("[1=1 or 1=2] and 1=2", false);
        stop("not 1=2", true);
        stop("not 1=2 and 1=2", false);
        stop("not [1=2 and 1=2]", true);
        stop("not 1=1 or 1=1", true);
        stop("not not 1=1", true);
        stop("not not not 1=1", false);
        stop("1+2-3+4=4", true);
        stop("10-3-2=5", true);
        stop("10-(3-2)=9", true);
        stop("10-(3-(2+1))-1=9", true);
        stop("10-((3)-2+1)=8", true);
        stop("10-(3+(2-1)-(1-(4)))=3", true);
        stop("(10)-((((3))))+(2)=9", true);
        stop("0-5<0", true);
        stop("x 2=0-4", true);
        stop("y 2=8", true);
        stop("x 3=4", true);
        stop("y 3=3", true);
        stop("x 2<x 0", true);
        stop("x 2>x 0", false);
        stop("9999+9999-9999=9999", true);
        stop("0=1", false);
        String drawn = "pin 0 0;pin 6 0;copy 0 0 1;along 0 2 1;stop x 3=0-2;";
        c.same("as drawn", Checks.made(drawn).lock(0), 1000);
        String wide = "pin 0 0;stop " + "1=2 or ".repeat(80) + "1=1;";
        c.same("many", Checks.made(wide).lock(0), 1000);
        String sum = "pin 0 0;stop 0" + "+9999".repeat(110) + ">1099889;";
        c.same("a number of seven digits", Checks.read(new DrawingBars(), sum), -8);
        c.same("a great sum", Checks.made("pin 0 0;stop 0" + "+9999".repeat(110) + "<9999;").good(0), true);
        String deep = "pin 0 0;stop " + "1=2 or 1=1 and [".repeat(6) + "1=2 or 1=1 and 1+2=2+1" + "]".repeat(6) + ";";
        c.same("deep", Checks.made(deep).lock(0), 1000);
    }

    private static void withoutBoard() {
        DrawingBars bars = new DrawingBars();
        for (int what = 0; what < 7; what++) {
            c.same("told " + what, bars.told(what), what < 5 ? 0 : NONE);
        }
        c.same("first", bars.first(), NONE);
        c.same("run(0)", bars.run(0), NONE);
        c.same("run(1)", bars.run(1), 0);
        c.same("layers", bars.layers(0) + bars.layers(1) + bars.layers(2), 0);
        c.same("order", bars.order(0), NONE);
        c.same("over", bars.over(), 0);
        c.noElement("joint", () -> bars.joint(0, 0));
        c.noElement("bar", () -> bars.bar(0, 0));
        c.noElement("crossers", () -> bars.crossers(0, 0));
        c.noElement("larger", () -> bars.larger(0, 0, 0, 0));
        c.noElement("far", () -> bars.far(0));
        c.noElement("take", () -> bars.take(0));
        c.noIndex("why", () -> bars.why(0, 0));
        c.noIndex("place", () -> bars.place(0, 0, 9));
        c.noIndex("side", () -> bars.side(0, 0, 9, 0));
        c.noIndex("whole", () -> bars.whole(0, 0));
        c.noIndex("good", () -> bars.good(0) ? 1 : 0);
        c.noIndex("lock", () -> bars.lock(0));
        c.noIndex("holds", () -> bars.holds(0, 0));
        c.noIndex("cross", () -> bars.cross(0, 0, 0) ? 1 : 0);
        c.badState("turn", () -> bars.turn(0));
        c.badState("curve", () -> bars.curve(0));
        c.badState("jump", () -> bars.jump(0));
        c.badState("like", () -> bars.like(0) ? 1 : 0);
        c.badState("lots", () -> bars.lots(1, 0, 0));
        c.badArgument("turn(101)", () -> bars.turn(101));
        c.badArgument("curve(5)", () -> bars.curve(5));
        c.badArgument("jump(2)", () -> bars.jump(2));
        c.badArgument("like(-1)", () -> bars.like(-1) ? 1 : 0);
        c.badArgument("lots(0)", () -> bars.lots(0, 0, 0));
        c.badArgument("layers(3)", () -> bars.layers(3));
        c.badArgument("run(2)", () -> bars.run(2));
        c.badArgument("told(7)", () -> bars.told(7));
    }

    private static void throwsInOrder() {
        DrawingBars bars = Checks.made(CRANK);
        for (int step : new int[] {-1, 12, Integer.MAX_VALUE, Integer.MIN_VALUE}) {
            c.noIndex("why " + step, () -> bars.why(step, 99));
            c.noIndex("place " + step, () -> bars.place(step, 99, 99));
            c.noIndex("side " + step, () -> bars.side(step, 99, 99, 99999));
            c.noIndex("whole " + step, () -> bars.whole(step, 99));
            c.noIndex("good " + step, () -> bars.good(step) ? 1 : 0);
            c.noIndex("lock " + step, () -> bars.lock(step));
            c.noIndex("holds " + step, () -> bars.holds(step, 99));
            c.noIndex("cross " + step, () -> bars.cross(step, 99, 99) ? 1 : 0);
        }
        for (int joint : new int[] {-1, 5, Integer.MAX_VALUE, Integer.MIN_VALUE}) {
            c.noElement("why " + joint, () -> bars.why(0, joint));
            c.noElement("place " + joint, () -> bars.place(0, joint, 2));
            c.noElement("side " + joint, () -> bars.side(0, joint, 2, 10000));
            c.noElement("whole " + joint, () -> bars.whole(0, joint));
            c.noElement("holds " + joint, () -> bars.holds(0, joint));
            c.noElement("cross " + joint, () -> bars.cross(0, joint, joint) ? 1 : 0);
            c.noElement("cross 0 " + joint, () -> bars.cross(0, 0, joint) ? 1 : 0);
            c.noElement("crossers " + joint, () -> bars.crossers(joint, joint));
            c.noElement("crossers 0 " + joint, () -> bars.crossers(0, joint));
        }
        c.badArgument("place what", () -> bars.place(0, 0, 2));
        c.badArgument("place what", () -> bars.place(3, 3, -1));
        c.badArgument("side what", () -> bars.side(0, 0, 2, 0));
        c.badArgument("side v", () -> bars.side(0, 0, 0, 10000));
        c.badArgument("side v, not placed", () -> bars.side(3, 3, 0, -10000));
        c.same("side v", bars.side(0, 0, 0, 9999), -1);
        c.same("side v", bars.side(0, 0, 1, -9999), 1);
        c.badArgument("cross one", () -> bars.cross(0, 1, 1) ? 1 : 0);
        c.badArgument("crossers one", () -> bars.crossers(2, 2));
    }
}
