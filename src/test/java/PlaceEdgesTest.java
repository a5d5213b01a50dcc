/** The edges of the order, the steps and the places: what comes, what is placed, by what first not, what is locked. */
public final class PlaceEdgesTest {
    private static final Checks c = new Checks();
    private static final int NONE = DrawingBars.NONE;
    private static final int VOID = DrawingBars.VOID;
    private static final int[] RADII = {5, 25, 65};
    private static final int[] STEPS = {12, 20, 36};
    /** Joint 2 has an unlike root from joint 3; joint 4 is a whole arm, joint 5 a fraction without a root. */
    private static final String ROOTS = "pin 0 0;pin 10 0;arm 0 10 1 10 0;arm 0 10 1 10 1;arm 0 6 1 4 0;along 0 1 1;";

    public static void main(String[] args) {
        orderGoesBack();
        orderIsFullOrEmpty();
        leftOver();
        stepsOfTheWheel();
        wheelIsNotToldTo();
        stepsOutOfReach();
        whyNotPlaced();
        firstOfSeveralReasons();
        unlikeOnesThatAreNotWhole();
        firstAndLastJoint();
        circlesThatMeet();
        circlesAtOnePlace();
        slotsThatReach();
        edgesOfTheField(false);
        edgesOfTheField(true);
        rootsAtTheEdge(false);
        rootsAtTheEdge(true);
        armsAtTheEdge(false);
        armsAtTheEdge(true);
        oneAtTheEdge(false);
        oneAtTheEdge(true);
        eachStepByItself();
        wheelAtTheEdge();
        cutDown();
        wholeByBoth();
        sideAtItsEdges();
        nearWholeNumbers();
        goodAsDrawn();
        conditions();
        sums();
        lockedByJoints();
        lockedByStops();
        firstLocked();
        c.end();
    }

    private static String pin(int along, int off, boolean up) {
        return up ? "pin " + off + " " + along + ";" : "pin " + along + " " + off + ";";
    }

    /** Joint 3 is 2,000 out along an axis, joint 4 as far the other way. */
    private static String farOut(boolean up) {
        return pin(0, 0, up) + pin(125, 0, up) + "along 0 1 16;along 0 2 16;copy 0 0 3;";
    }

    private static void whys(String text, int from, int... due) {
        DrawingBars bars = Checks.made(text);
        for (int i = 0; i < due.length; i++) {
            int j = from + i;
            c.same(text + " why " + j, bars.why(0, j), due[i]);
            for (int what = 0; what < 2; what++) {
                c.same(text + " place " + j, bars.place(0, j, what) == VOID, due[i] != 0);
                c.same(text + " side " + j, bars.side(0, j, what, 0) == VOID, due[i] != 0);
            }
            c.same(text + " whole " + j, bars.whole(0, j) == NONE, due[i] != 0);
        }
    }

    /** A joint comes when all it is told by have come, of several the one of the least number next. */
    private static void orderGoesBack() {
        int[] due = {15, 14, 13, 12, 11, 10, 9, 8, 7, 6, 5, 4, 3, 2, 1, 0};
        StringBuilder text = new StringBuilder();
        for (int j = 0; j < 15; j++) {
            int by = j + 1;
            text.append("copy ").append(by + " " + by + " " + by + ";");
        }
        DrawingBars back = Checks.made(text + "pin 3 4;");
        for (int i = 0; i < 16; i++) {
            c.same("back " + i, back.order(i), due[i]);
        }
        c.same("through all", back.place(0, 0, 1), 4);
        DrawingBars mixed = Checks.made("arm 3 5 5 5 0;pin 0 0;slot 4 5 0 3 1;pin 6 0;copy 3 3 1;pin 0 0;wheel 2 5;along 6 5 2;");
        int[] mixedDue = {1, 3, 4, 2, 5, 0, 6, 7};
        for (int i = 0; i < mixedDue.length; i++) {
            c.same("mixed " + i, mixed.order(i), mixedDue[i]);
        }
    }

    private static void orderIsFullOrEmpty() {
        DrawingBars full = Checks.made("pin 0 0;".repeat(16));
        c.same("the last", full.order(15), 15);
        c.same("not so many", full.order(16), NONE);
        c.same("below", full.order(-1), NONE);
        c.same("far below", full.order(Integer.MIN_VALUE), NONE);
        c.same("far beyond", full.order(Integer.MAX_VALUE), NONE);
        c.same("none is left over", full.over(), 0);
        DrawingBars one = Checks.made("pin 0 0;");
        c.same("the only one", one.order(0), 0);
        c.same("behind it", one.order(1), NONE);
        DrawingBars none = Checks.made("copy 0 0 0;");
        c.same("none comes", none.order(0), NONE);
        c.same("left over", none.over(), 1);
        c.same("without a board", new DrawingBars().order(0), NONE);
    }

    private static void leftOver() {
        DrawingBars bars = Checks.made("copy 15 15 15;pin 1 1;copy 0 1 1;along 2 1 0;wheel 4 5;" + "pin 2 2;".repeat(10) + "slot 15 1 0 1 0;");
        c.same("the first and the last bit", bars.over(), 1 | 1 << 2 | 1 << 3 | 1 << 4 | 1 << 15);
        for (int j : new int[] {0, 2, 3, 4, 15}) {
            c.same("left over " + j, bars.why(11, j), 5);
            c.same("its place", bars.place(0, j, 0), VOID);
        }
        c.same("what comes", bars.order(10), 14);
        c.same("and no more", bars.order(11), NONE);
        c.same("steps of a wheel that never comes", bars.told(3), 12);
        DrawingBars all = Checks.made("copy 1 1 1;copy 0 0 0;".repeat(8));
        c.same("all sixteen", all.over(), 65535);
        c.same("two that wait for each other", Checks.made("pin 0 0;along 2 0 1;along 1 0 1;pin 1 1;").over(), 6);
    }

    /** Step 0 at R to the right, then leftward round: 12, 20 or 36 steps; without a wheel 1. */
    private static void stepsOfTheWheel() {
        for (int i = 0; i < 3; i++) {
            int r = RADII[i];
            DrawingBars bars = Checks.made("pin 100 100;wheel 0 " + r + ";");
            int quarter = STEPS[i] / 4;
            c.same("steps of " + r, bars.told(3), STEPS[i]);
            for (int s = 0; s < STEPS[i]; s++) {
                int x = bars.place(s, 1, 0) - 100;
                int y = bars.place(s, 1, 1) - 100;
                int nextX = bars.place((s + 1) % STEPS[i], 1, 0) - 100;
                int nextY = bars.place((s + 1) % STEPS[i], 1, 1) - 100;
                c.same("R away", x * x + y * y, r * r);
                c.same("leftward", x * nextY - y * nextX > 0, true);
                c.same("none between", r > 5 || x * nextX + y * nextY >= 0, true);
                c.same("a quarter on", bars.place((s + quarter) % STEPS[i], 1, 0) - 100, -y);
            }
            c.same("to the right", bars.place(0, 1, 0), 100 + r);
            c.same("above", bars.place(quarter, 1, 1), 100 + r);
            c.same("to the left", bars.place(2 * quarter, 1, 0), 100 - r);
            c.same("below", bars.place(3 * quarter, 1, 1), 100 - r);
            c.same("the first has Y", bars.place(1, 1, 1) > 100, true);
            c.same("the last lies below", bars.place(STEPS[i] - 1, 1, 1) < 100, true);
        }
        c.same("without a wheel", Checks.made("pin 0 0;").told(3), 1);
    }

    private static void wheelIsNotToldTo() {
        whys(ROOTS + "arm 0 3 1 3 0;wheel 6 5;", 6, 3, 1);
        whys(ROOTS + "wheel 2 5;", 6, 2);
        whys(ROOTS + "wheel 5 5;", 6, 2);
        whys(ROOTS + "wheel 4 5;", 6, 0);
        c.same("round a whole arm", Checks.made(ROOTS + "wheel 4 5;").place(6, 6, 0), 1);
    }

    /** No such step: -1 and the number of steps are the first beyond on both sides. */
    private static void stepsOutOfReach() {
        for (int i = -1; i < 3; i++) {
            DrawingBars bars = Checks.made(i < 0 ? "pin 0 0;pin 9 9;bar 0 1 5;bar 1 0 5;"
                    : "pin 70 70;wheel 0 " + RADII[i] + ";bar 0 1 5;bar 1 0 5;");
            int steps = i < 0 ? 1 : STEPS[i];
            c.same("last good", bars.good(steps - 1), true);
            c.same("last lock", bars.lock(steps - 1), NONE);
            c.same("last why", bars.why(steps - 1, 1), 0);
            c.same("last place", bars.place(steps - 1, 0, 0), i < 0 ? 0 : 70);
            c.same("last side", bars.side(steps - 1, 0, 1, 71), -1);
            c.same("last whole", bars.whole(steps - 1, 1), 1);
            c.same("last holds", bars.holds(steps - 1, 0), i == 0 ? 1 : 0);
            c.same("last cross", bars.cross(steps - 1, 0, 1), false);
            for (int step : new int[] {-1, steps, steps + 1, Integer.MAX_VALUE, Integer.MIN_VALUE}) {
                c.noIndex("good " + step, () -> bars.good(step) ? 1 : 0);
                c.noIndex("lock " + step, () -> bars.lock(step));
                c.noIndex("why " + step, () -> bars.why(step, 0));
                c.noIndex("place " + step, () -> bars.place(step, 0, 0));
                c.noIndex("side " + step, () -> bars.side(step, 0, 0, 0));
                c.noIndex("whole " + step, () -> bars.whole(step, 0));
                c.noIndex("holds " + step, () -> bars.holds(step, 0));
                c.noIndex("cross " + step, () -> bars.cross(step, 0, 1) ? 1 : 0);
            }
        }
    }

    /** Each kind by each reason: 1 not placed, 2 not whole, 3 no such place, 4 beyond. */
    private static void whyNotPlaced() {
        String lost = ROOTS + "arm 0 4 1 4 0;";
        whys(lost + "arm 6 5 0 5 0;arm 0 5 6 5 0;slot 6 1 0 1 0;copy 6 0 0;copy 0 6 0;copy 0 0 6;along 6 0 1;along 0 6 0;",
                6, 3, 1, 1, 1, 1, 1, 1, 1, 1);
        whys(ROOTS + "arm 2 5 0 5 0;arm 0 5 2 5 0;slot 2 9 0 9 0;slot 5 9 1 1 0;arm 0 5 5 5 0;", 6, 2, 2, 2, 2, 2);
        whys(ROOTS + "arm 4 5 0 5 0;slot 4 1 0 0 0;copy 4 4 0;along 4 0 2;", 6, 0, 0, 0, 0);
        whys(ROOTS + "copy 2 0 1;copy 0 2 1;copy 0 1 2;along 2 0 1;along 0 2 1;copy 5 0 0;", 6, 0, 0, 0, 0, 0, 2);
        whys(ROOTS + "copy 2 0 1;copy 6 0 0;along 0 6 1;copy 0 0 5;along 5 0 1;along 2 1 3;copy 0 0 11;along 11 0 16;",
                6, 0, 2, 2, 2, 2, 0, 2, 2);
    }

    /** By the first of these: 1 ahead of 2, 2 ahead of 3 and 4, and 5 whatever else. */
    private static void firstOfSeveralReasons() {
        whys(ROOTS + "arm 0 4 1 4 0;arm 6 5 2 5 0;arm 2 5 6 5 0;copy 2 3 6;copy 6 2 3;copy 5 5 6;along 6 5 1;slot 6 1 0 199 0;",
                6, 3, 1, 1, 1, 1, 1, 1, 1);
        whys(ROOTS + "slot 2 1 0 199 0;arm 2 1 1 1 0;arm 0 1 2 1 0;arm 2 5 0 99 0;", 6, 2, 2, 2, 2);
        whys(farOut(false) + "pin 10 0;arm 0 10 5 10 0;arm 0 10 5 10 1;slot 0 2 0 1 0;copy 3 6 8;along 8 3 16;copy 3 6 0;copy 3 8 0;",
                6, 0, 0, 0, 2, 4, 4, 0);
        whys("pin 0 0;copy 1 0 0;arm 1 5 0 5 0;pin 10 0;arm 0 4 3 4 0;arm 4 5 2 5 0;copy 2 2 2;slot 1 9 0 0 0;",
                1, 5, 5, 0, 3, 5, 5, 5);
    }

    /** Of the unlike ones that a copy or a point along is told by two are not whole: one and the same counts once. */
    private static void unlikeOnesThatAreNotWhole() {
        whys(ROOTS + "copy 2 2 0;copy 2 0 2;copy 0 2 2;copy 2 2 2;copy 2 3 0;copy 2 0 3;copy 0 2 3;along 2 3 0;along 3 2 16;copy 2 2 3;",
                6, 0, 0, 0, 0, 2, 2, 2, 2, 2, 2);
        whys("pin 0 0;pin 10 0;arm 0 10 1 10 0;arm 0 10 1 10 0;copy 2 3 0;along 2 3 1;copy 2 1 2;copy 6 2 2;", 4, 2, 2, 0, 0);
        DrawingBars bars = Checks.made(ROOTS + "copy 2 0 2;copy 2 2 2;along 2 0 4;along 0 2 0;along 2 1 0;");
        int[] whole = {1, 0, 1, 1, 0};
        for (int i = 0; i < whole.length; i++) {
            c.same("a root that goes out " + i, bars.whole(0, 6 + i), whole[i]);
        }
        whys(ROOTS + "copy 2 0 2;copy 6 2 0;along 6 2 1;arm 6 5 1 5 0;along 2 0 4;copy 10 2 0;slot 10 3 0 1 0;", 6, 0, 0, 0, 0, 0, 0, 0);
    }

    /** The first joint and the last are joints as others: not whole, not placed, or a root of what is told by them. */
    private static void firstAndLastJoint() {
        String[] rough = {"arm 1 10 2 10 0;pin 0 0;pin 10 0;", "along 1 2 1;pin 0 0;pin 10 0;", "slot 1 9 0 4 1;pin 0 0;pin 10 0;"};
        for (String first : rough) {
            int copied = first.startsWith("along") ? 2 : 0;
            whys(first + "arm 0 5 1 5 0;arm 1 5 0 5 0;slot 0 9 0 1 0;wheel 0 5;copy 0 1 2;copy 1 0 2;copy 1 2 0;along 0 1 1;along 1 0 1;"
                    + "copy 0 0 2;copy 0 1 0;", 3, 2, 2, 2, 2, copied, copied, copied, copied, copied, copied, copied);
        }
        whys("arm 1 4 2 4 0;pin 0 0;pin 10 0;arm 0 5 1 5 0;arm 1 5 0 5 0;slot 0 9 0 1 0;wheel 0 5;copy 0 1 2;copy 1 0 2;copy 1 2 0;"
                + "along 0 1 1;along 1 0 1;", 3, 1, 1, 1, 1, 1, 1, 1, 1, 1);
        String pins = "pin 0 0;pin 10 0;" + "pin 1 1;".repeat(12);
        whys("copy 15 1 2;" + pins + "arm 1 4 2 4 0;", 0, 1);
        whys("arm 15 9 1 9 0;" + pins + "arm 1 4 2 4 0;", 0, 1);
        whys("slot 15 9 0 4 1;" + pins + "arm 1 10 2 10 0;", 0, 2);
        whys("copy 15 1 2;" + pins + "arm 1 10 2 10 0;", 0, 0);
        String rooted = "arm 1 10 2 10 0;pin 0 0;pin 10 0;copy 0 2 1;copy 0 0 1;along 1 0 3;bar 0 3 10;bar 0 4 10;bar 3 4 10;bar 1 4 20;";
        DrawingBars bars = Checks.made(rooted);
        for (int bar = 0; bar < 4; bar++) {
            c.same("of the root of joint 0, bar " + bar, bars.holds(0, bar), 1);
        }
        c.same("larger by the root of joint 0", bars.larger(4, 0, 1, 8), 1);
        c.same("three quarters of joint 0", bars.larger(5, 0, 1, 3), 1);
    }

    /** Circles that do not meet; where they touch there is one place for both S. */
    private static void circlesThatMeet() {
        for (int dx = -6; dx <= 12; dx++) {
            for (int dy = -1; dy <= 4; dy++) {
                for (int m = 1; m <= 13; m += 1) {
                    meet(dx, dy, m);
                }
            }
        }
        String far = "pin 0 0;pin 198 0;pin 199 0;pin 118 159;pin 0 197;";
        whys(far + "arm 0 99 1 99 0;arm 0 99 2 99 0;arm 0 99 3 99 1;arm 0 99 4 99 0;arm 4 99 0 98 0;arm 4 98 0 98 0;",
                5, 0, 3, 3, 0, 0, 3);
        DrawingBars long198 = Checks.made(far + "arm 0 99 1 99 0;");
        c.same("as long as can be", long198.place(0, 5, 0), 99);
    }

    private static void meet(int dx, int dy, int m) {
        StringBuilder text = new StringBuilder("pin 50 50;pin " + (50 + dx) + " " + (50 + dy) + ";");
        for (int n = 1; n <= 13; n += 2) {
            for (int s = 0; s < 2; s++) {
                text.append("arm 0 " + m + " 1 " + n + " " + s + ";");
            }
        }
        DrawingBars bars = Checks.made(text.toString());
        int apart = dx * dx + dy * dy;
        for (int n = 1; n <= 13; n += 2) {
            boolean meets = apart > 0 && apart <= (m + n) * (m + n) && apart >= (m - n) * (m - n);
            boolean touches = meets && (apart == (m + n) * (m + n) || apart == (m - n) * (m - n));
            int left = n + 1;
            int right = n + 2;
            c.same(text + " left " + n, bars.why(0, left), meets ? 0 : 3);
            c.same(text + " right " + n, bars.why(0, right), meets ? 0 : 3);
            if (touches) {
                c.same("one X for both", bars.place(0, left, 0), bars.place(0, right, 0));
                c.same("one Y for both", bars.place(0, left, 1), bars.place(0, right, 1));
            } else if (meets) {
                int turn = dx * (bars.place(0, left, 1) - 50) - dy * (bars.place(0, left, 0) - 50);
                int other = dx * (bars.place(0, right, 1) - 50) - dy * (bars.place(0, right, 0) - 50);
                c.same(text + " left is left of right, or drawn alike " + n, turn >= other, true);
            }
        }
    }

    private static void circlesAtOnePlace() {
        whys("pin 5 5;pin 5 5;pin 5 6;arm 0 9 1 9 0;arm 0 9 1 9 1;arm 0 9 1 8 0;arm 0 9 2 9 0;arm 0 9 2 8 0;arm 0 9 2 7 0;arm 0 9 2 10 0;arm 0 9 2 11 1;",
                3, 3, 3, 3, 0, 0, 3, 0, 3);
        DrawingBars wheel = Checks.made("pin 5 5;wheel 0 5;pin 5 10;arm 1 4 2 4 0;");
        c.same("at one place at step 3", wheel.lock(3), 33);
        c.same("its why", wheel.why(3, 3), 3);
        c.same("not so ahead", wheel.good(2), true);
        c.same("not so behind", wheel.good(4), true);
    }

    /** A slot reaches its line if it is M away at most; there both S are one. */
    private static void slotsThatReach() {
        for (int m = 1; m <= 9; m++) {
            for (int level = 0; level < 2; level++) {
                for (int at = 50 - m - 1; at <= 50 + m + 1; at++) {
                    DrawingBars bars = Checks.made("pin 50 50;slot 0 " + m + " " + level + " " + at + " 0;slot 0 " + m + " " + level
                            + " " + at + " 1;");
                    int off = Math.abs(at - 50);
                    c.same("reaches " + m + " " + at, bars.why(0, 1), off <= m ? 0 : 3);
                    c.same("reaches " + m + " " + at, bars.why(0, 2), off <= m ? 0 : 3);
                    if (off <= m) {
                        int free = level == 0 ? 0 : 1;
                        c.same("its line", bars.place(0, 1, 1 - free), at);
                        c.same("its line", bars.side(0, 2, 1 - free, at), 0);
                        c.same("the lesser", bars.side(0, 1, free, 50), off == m ? 0 : -1);
                        c.same("the greater", bars.side(0, 2, free, 50), off == m ? 0 : 1);
                    }
                }
            }
        }
        whys("pin 0 100;slot 0 99 0 199 0;slot 0 99 0 1 1;slot 0 99 0 0 1;pin 199 1;slot 4 99 1 100 0;slot 4 99 1 99 0;", 1, 0, 0, 3, 0, 0, 3);
    }

    /** X or Y is below -2,000 or above 2,000: just at the edge a joint is placed. */
    private static void edgesOfTheField(boolean up) {
        String text = farOut(up) + pin(1, 0, up) + "copy 3 5 0;copy 3 0 5;copy 4 0 5;copy 4 5 0;"
                + "along 7 3 5;along 7 3 3;along 9 4 5;along 9 4 3;along 7 3 4;along 9 4 4;";
        whys(text, 3, 0, 0, 0, 4, 0, 4, 0, 4, 0, 4, 0, 0, 0);
        DrawingBars bars = Checks.made(text);
        int what = up ? 1 : 0;
        int[][] due = {{3, 2000}, {4, -2000}, {6, VOID}, {7, 1999}, {8, VOID}, {9, -1999}, {10, VOID}, {11, 1999}, {12, VOID},
            {13, -2000}, {14, 2000}, {15, -2000}};
        for (int[] place : due) {
            c.same("along the axis " + place[0], bars.place(0, place[0], what), place[1]);
            c.same("off the axis " + place[0], bars.place(0, place[0], 1 - what), place[1] == VOID ? VOID : 0);
        }
        c.same("a quarter below 2,000", bars.side(0, 11, what, 2000), -1);
        c.same("a quarter above -2,000", bars.side(0, 13, what, -2000), 1);
        c.same("just 2,000", bars.side(0, 14, what, 2000), 0);
        c.same("locked by the first beyond", bars.lock(0), 64);
    }

    private static void rootsAtTheEdge(boolean up) {
        String way = up ? " 1 " : " 0 ";
        String text = farOut(up) + pin(2, 0, up) + "copy 3 0 5;copy 4 5 0;"
                + "slot 6 3" + way + "2 1;slot 6 2" + way + "1 1;slot 7 3" + way + "2 0;slot 7 2" + way + "1 0;"
                + "slot 6 2" + way + "0 1;slot 6 3" + way + "0 1;slot 7 2" + way + "0 0;slot 7 3" + way + "0 0;";
        whys(text, 6, 0, 0, 4, 0, 4, 0, 0, 4, 0, 4);
        DrawingBars bars = Checks.made(text);
        int what = up ? 1 : 0;
        c.same("1,998 and the root of 3", bars.place(0, 9, what), 1999);
        c.same("its other side", bars.place(0, 9, 1 - what), 1);
        c.same("-1,998 less the root of 3", bars.place(0, 11, what), -2000);
        c.same("just at the edge", bars.whole(0, 12), 1);
        c.same("just at the other", bars.place(0, 14, what), -2000);
    }

    private static void armsAtTheEdge(boolean up) {
        String text = farOut(up) + pin(2, 0, up) + pin(0, 4, up) + "copy 3 0 5;copy 7 6 0;"
                + (up ? "arm 7 3 8 3 1;arm 7 3 8 3 0;" : "arm 7 3 8 3 0;arm 7 3 8 3 1;") + "arm 7 2 8 2 1;copy 4 5 0;copy 12 6 0;"
                + (up ? "arm 12 3 13 3 0;arm 12 3 13 3 1;" : "arm 12 3 13 3 1;arm 12 3 13 3 0;");
        whys(text, 7, 0, 0, 0, 4, 0, 0, 0, 0, 4);
        DrawingBars bars = Checks.made(text);
        int what = up ? 1 : 0;
        c.same("1,998 less the root of 5", bars.place(0, 9, what), 1995);
        c.same("where they touch", bars.place(0, 11, what), 1998);
        c.same("-1,998 and the root of 5", bars.place(0, 14, what), -1996);
    }

    /** X just at the edge, while Y has a root, and the other way round. */
    private static void oneAtTheEdge(boolean up) {
        String text = farOut(up) + pin(10, 0, up) + pin(1, 0, up) + "copy 3 0 5;copy 3 0 6;copy 4 5 0;copy 4 6 0;"
                + "arm 7 18 8 15 0;arm 7 18 8 15 1;arm 9 18 10 15 0;arm 9 18 10 15 1;";
        whys(text, 11, 0, 0, 0, 0);
        DrawingBars bars = Checks.made(text);
        int what = up ? 1 : 0;
        int[] edge = {2000, 2000, -2000, -2000};
        for (int i = 0; i < 4; i++) {
            c.same("just at the edge " + i, bars.side(0, 11 + i, what, edge[i]), 0);
            c.same("drawn there " + i, bars.place(0, 11 + i, what), edge[i]);
            int off = bars.place(0, 11 + i, 1 - what);
            c.same("by the root of 224 off " + i, off == 14 || off == -15, true);
            c.same("not whole " + i, bars.whole(0, 11 + i), 0);
        }
    }

    /** At each step a joint is as it is then, not as at step 0: where, whole, placed, and how far from others. */
    private static void eachStepByItself() {
        int[] xs = {5, 4, 3, 0, -3, -4, -5, -4, -3, 0, 3, 4};
        int[] ys = {0, 3, 4, 5, 4, 3, 0, -3, -4, -5, -4, -3};
        int[] rootOf36Less = {6, 5, 4, 3, 4, 5, 6, 5, 4, 3, 4, 5};
        String text = "pin 0 0;wheel 0 5;slot 1 6 0 0 1;slot 1 4 0 0 1;slot 1 7 0 0 1;arm 0 2 1 3 0;slot 2 9 0 0 1;copy 2 0 0;copy 3 0 0;"
                + "bar 0 2 11;bar 0 2 1;bar 2 4 1;bar 0 3 9;bar 0 5 2;bar 5 1 3;bar 1 0 5;bar 3 1 4;";
        DrawingBars bars = Checks.made(text);
        for (int s = 0; s < 12; s++) {
            boolean level = ys[s] == 0;
            boolean top = xs[s] == 0;
            c.same("wheel at " + s, bars.side(s, 1, 0, xs[s]), 0);
            c.same("wheel at " + s, bars.side(s, 1, 1, ys[s]), 0);
            c.same("slot at " + s, bars.place(s, 2, 0), xs[s] + rootOf36Less[s]);
            c.same("slot whole at " + s, bars.whole(s, 2), level ? 1 : 0);
            c.same("slot beside at " + s, bars.side(s, 2, 0, xs[s] + rootOf36Less[s]), level ? 0 : 1);
            c.same("short slot at " + s, bars.why(s, 3), top ? 3 : 0);
            c.same("short slot whole at " + s, bars.whole(s, 3), top ? NONE : Math.abs(ys[s]) == 3 ? 0 : 1);
            c.same("short slot beside at " + s, bars.side(s, 3, 0, xs[s]), top ? VOID : Math.abs(ys[s]) == 4 ? 0 : 1);
            c.same("touching X at " + s, bars.place(s, 5, 0), Math.floorDiv(2 * xs[s], 5));
            c.same("touching Y at " + s, bars.place(s, 5, 1), Math.floorDiv(2 * ys[s], 5));
            c.same("touching whole at " + s, bars.whole(s, 5), level || top ? 1 : 0);
            c.same("told by one that is whole then, at " + s, bars.why(s, 6), level ? 0 : 2);
            c.same("a copy at " + s, bars.place(s, 7, 0), bars.place(s, 2, 0));
            c.same("a copy of one not placed at " + s, bars.why(s, 8), top ? 1 : 0);
            int[] holds = {s == 0 ? 1 : 0, s == 6 ? 1 : 0, level ? 1 : NONE, top ? NONE : s == 0 ? 1 : 0, 1, 1, 1, top ? NONE : 1};
            for (int bar = 0; bar < holds.length; bar++) {
                c.same("bar " + bar + " at " + s, bars.holds(s, bar), holds[bar]);
            }
            c.same("lock at " + s, bars.lock(s), top ? 33 : level ? NONE : 62);
        }
    }

    private static void wheelAtTheEdge() {
        DrawingBars bars = Checks.made(farOut(false) + "pin 4 0;copy 3 0 5;wheel 6 5;");
        for (int s = 0; s < 12; s++) {
            c.same("beyond at step 0 alone " + s, bars.why(s, 7), s == 0 ? 4 : 0);
        }
        c.same("at the edge", bars.place(1, 7, 0), 2000);
        c.same("at the edge", bars.place(11, 7, 0), 2000);
        c.same("locked", bars.lock(0), 74);
        c.same("good", bars.good(1), true);
    }

    /** Drawn is cut down to whole numbers: -1 and a half is -2; of quarters only the fourth is whole. */
    private static void cutDown() {
        for (int half = 0; half < 2; half++) {
            for (int what = 0; what < 2; what++) {
                boolean up = what == 1;
                StringBuilder text = new StringBuilder(pin(0, 0, up) + pin(2, 0, up) + pin(1, 0, up) + "copy 0 0 1;copy 0 0 2;");
                for (int m = half * 8; m <= half * 8 + 8; m++) {
                    text.append("along 3 4 " + m + ";");
                }
                DrawingBars bars = Checks.made(text.toString());
                for (int m = half * 8; m <= half * 8 + 8; m++) {
                    int j = 5 + m - half * 8;
                    int floor = Math.floorDiv(m - 8, 4);
                    c.same("quarters " + (m - 8), bars.place(0, j, what), floor);
                    c.same("across", bars.place(0, j, 1 - what), 0);
                    c.same("whole " + (m - 8), bars.whole(0, j), m % 4 == 0 ? 1 : 0);
                    c.same("at its floor " + (m - 8), bars.side(0, j, what, floor), m % 4 == 0 ? 0 : 1);
                    c.same("below the next " + (m - 8), bars.side(0, j, what, floor + 1), -1);
                    c.same("above the one before " + (m - 8), bars.side(0, j, what, floor - 1), 1);
                }
            }
        }
    }

    /** Whole is a joint if its X and its Y are whole numbers, not one alone. */
    private static void wholeByBoth() {
        DrawingBars bars = Checks.made("pin 0 0;pin 4 2;pin 2 4;pin 4 4;along 0 1 1;along 0 2 1;along 0 3 1;along 0 1 2;along 0 2 2;"
                + "slot 0 5 0 2 1;slot 0 5 1 2 1;slot 0 5 0 3 1;slot 0 5 1 4 0;pin 6 0;arm 0 5 13 5 0;arm 0 5 13 6 0;");
        int[] due = {0, 0, 1, 1, 1, 0, 0, 1, 1, 1, 1, 0};
        for (int i = 0; i < due.length; i++) {
            c.same("whole " + (4 + i), bars.whole(0, 4 + i), due[i]);
        }
    }

    /** Whether X or Y is exactly v, from -9,999 to 9,999. */
    private static void sideAtItsEdges() {
        DrawingBars bars = Checks.made(farOut(false) + "copy 0 3 1;" + pin(125, 125, false));
        c.same("2,000 and the most", bars.side(0, 3, 0, 9999), -1);
        c.same("2,000 and the least", bars.side(0, 3, 0, -9999), 1);
        c.same("-2,000 and the most", bars.side(0, 4, 0, 9999), -1);
        c.same("-2,000 and the least", bars.side(0, 4, 0, -9999), 1);
        c.same("2,000 and 1,999", bars.side(0, 3, 0, 1999), 1);
        c.same("2,000 and 2,001", bars.side(0, 3, 0, 2001), -1);
        c.same("2,000", bars.side(0, 3, 0, 2000), 0);
        c.same("its Y", bars.side(0, 3, 1, 0), 0);
        for (int v : new int[] {10000, -10000, Integer.MAX_VALUE, Integer.MIN_VALUE}) {
            c.badArgument("v " + v, () -> bars.side(0, 3, 0, v));
            c.badArgument("v " + v, () -> bars.side(0, 3, 1, v));
        }
        for (int what : new int[] {-1, 2, Integer.MAX_VALUE, Integer.MIN_VALUE}) {
            c.badArgument("what " + what, () -> bars.side(0, 3, what, 0));
            c.badArgument("what " + what, () -> bars.place(0, 3, what));
        }
        for (int j : new int[] {-1, 7, Integer.MAX_VALUE, Integer.MIN_VALUE}) {
            c.noElement("joint " + j, () -> bars.side(0, j, 0, 0));
            c.noElement("joint " + j, () -> bars.place(0, j, 0));
            c.noElement("joint " + j, () -> bars.why(0, j));
            c.noElement("joint " + j, () -> bars.whole(0, j));
        }
    }

    /** Roots that come as near to a whole number as they can, from below and from above. */
    private static void nearWholeNumbers() {
        for (int m = 2; m <= 99; m++) {
            DrawingBars bars = Checks.made("pin 100 100;slot 0 " + m + " 0 101 0;slot 0 " + m + " 0 101 1;slot 0 " + m + " 1 101 0;"
                    + "slot 0 " + m + " 1 101 1;");
            int[] floor = {100 - m, 100 + m - 1};
            for (int i = 0; i < 4; i++) {
                int what = i / 2;
                c.same("root of " + m + " by " + m + " less 1", bars.place(0, 1 + i, what), floor[i % 2]);
                c.same("just beside", bars.side(0, 1 + i, what, i % 2 == 0 ? 100 - m : 100 + m), i % 2 == 0 ? 1 : -1);
                c.same("not whole", bars.whole(0, 1 + i), 0);
            }
        }
    }

    /** Stops compare the places as drawn. */
    private static void goodAsDrawn() {
        String text = "pin 0 0;pin 6 0;copy 0 0 1;along 0 2 1;along 0 1 1;arm 0 5 1 4 0;stop ";
        String[] hold = {"x 3=0-2", "x 4=1", "x 5=3", "y 5=3", "x 3<0-1", "x 3>0-3", "x 4+x 4=2", "x 4<2", "y 5<4", "x 2=0-6"};
        String[] not = {"x 3=0-1", "x 4=2", "x 5=4", "y 5=4", "x 3<0-2", "x 3>0-2", "x 4+x 4=3", "x 4>1", "y 5<3", "x 2=6"};
        for (int i = 0; i < hold.length; i++) {
            c.same(hold[i], Checks.made(text + hold[i] + ";").lock(0), 1000);
            c.same(hold[i], Checks.made(text + hold[i] + ";").good(0), false);
            c.same(not[i], Checks.made(text + not[i] + ";").lock(0), NONE);
            c.same(not[i], Checks.made(text + not[i] + ";").good(0), true);
        }
    }

    private static void stop(String condition, boolean holds) {
        c.same("stop " + condition, Checks.made("pin 3 4;stop " + condition + ";").lock(0), holds ? 1000 : NONE);
    }

    /** C: D { "or" D }, D: B { "and" B }, B: "not" B or "[" C "]": each by all that its parts may be. */
    private static void conditions() {
        for (int values = 0; values < 8; values++) {
            boolean p = (values & 1) != 0;
            boolean q = (values & 2) != 0;
            boolean r = (values & 4) != 0;
            String a = p ? "1=1" : "1=2";
            String b = q ? "x 0=3" : "x 0=4";
            String d = r ? "y 0>3" : "y 0<4";
            stop(a, p);
            stop("not " + a, !p);
            stop("not not " + a, p);
            stop("[" + a + "]", p);
            stop(a + " or " + b, p || q);
            stop(a + " and " + b, p && q);
            stop(a + " or " + b + " or " + d, p || q || r);
            stop(a + " and " + b + " and " + d, p && q && r);
            stop(a + " or " + b + " and " + d, p || q && r);
            stop(a + " and " + b + " or " + d, p && q || r);
            stop("[" + a + " or " + b + "] and " + d, (p || q) && r);
            stop(a + " and [" + b + " or " + d + "]", p && (q || r));
            stop("not " + a + " and " + b + " or not " + d, !p && q || !r);
            stop("not [" + a + " and " + b + "] or " + d, !(p && q) || r);
            stop("not [" + a + " or not " + b + "] and not " + d, !(p || !q) && !r);
            stop("not not [not " + a + " or " + b + "] and [[" + d + "]]", (!p || q) && r);
        }
        for (int left = 0; left <= 4; left++) {
            for (int right = 0; right <= 4; right++) {
                stop(left + "-2<" + right + "-2", left < right);
                stop(left + "-2>" + right + "-2", left > right);
                stop(left + "-2=" + right + "-2", left == right);
            }
        }
        stop("9999>9998", true);
        stop("9999<9999", false);
        stop("0-9999-9999<0-9999", true);
    }

    private static void sum(String sum, int due) {
        stop(due < 0 ? sum + "+" + -due + "=0" : sum + "=" + due, true);
        stop(due < 0 ? "0-" + -due + "=" + sum : due + "=" + sum, true);
        stop(due < 0 ? sum + "+1+" + -due + ">0" : sum + "+1>" + due, true);
        stop(due < 0 ? sum + "+" + -due + "<0" : sum + "<" + due, false);
        stop(due < 0 ? sum + "+" + -due + ">0" : sum + ">" + due, false);
    }

    /** E: U { + or - U } from the left; what stands in ( ) goes first. */
    private static void sums() {
        int[][] numbers = {{9, 5, 3, 2}, {1, 20, 300, 4000}, {4000, 300, 20, 1}, {0, 7, 0, 7}, {13, 13, 1, 0}};
        for (int[] n : numbers) {
            int i = n[0];
            int j = n[1];
            int k = n[2];
            int l = n[3];
            sum(i + "-" + j + "-" + k, i - j - k);
            sum(i + "-" + j + "+" + k, i - j + k);
            sum("(" + i + "-" + j + ")", i - j);
            sum("((" + i + "-" + j + ")-" + k + ")-" + l, i - j - k - l);
            sum("(" + i + "-" + j + ")-(" + k + "-" + l + ")", i - j - (k - l));
            sum(i + "-(" + j + "-" + k + ")-(" + l + "-" + i + ")", i - (j - k) - (l - i));
            sum(i + "-(" + j + "-(" + k + "-" + l + "))", i - (j - (k - l)));
            sum(i + "-(" + j + "+(" + k + "-" + l + ")-" + i + ")-" + k, i - (j + (k - l) - i) - k);
            sum(i + "+(" + j + "-(" + k + "+" + l + ")+" + k + ")+" + l, i + (j - (k + l) + k) + l);
            sum("((((((" + i + "))))))-((((((" + j + "-" + k + "))))))", i - (j - k));
            sum("(" + i + "-(" + j + "))-(" + k + "-(" + l + "-(" + i + "-" + j + ")))", i - j - (k - (l - (i - j))));
            sum("x 0-(y 0-(" + i + "))", 3 - (4 - i));
            sum("(y 0)-(x 0-" + j + "-(y 0))", 4 - (3 - j - 4));
        }
    }

    /** By the first joint in the order that is not placed by other than 1; left over ones behind all, by number. */
    private static void lockedByJoints() {
        c.same("joint 0", Checks.made("arm 1 4 2 4 0;pin 0 0;pin 9 0;stop 1=1;").lock(0), 3);
        c.same("joint 15", Checks.made("pin 0 0;".repeat(14) + "pin 9 0;arm 0 4 14 4 0;").lock(0), 153);
        c.same("joint 0 left over", Checks.made("copy 0 0 0;pin 0 0;stop 1=1;").lock(0), 5);
        c.same("joint 15 left over", Checks.made("pin 0 0;".repeat(15) + "copy 15 0 0;").lock(0), 155);
        c.same("left over behind one of a greater number", Checks.made("copy 0 0 0;pin 0 0;pin 9 0;arm 1 4 2 4 0;").lock(0), 33);
        c.same("left over ahead of stops", Checks.made("pin 0 0;copy 1 0 0;stop 0=0;").lock(0), 15);
        c.same("of the order, not the number", Checks.made("arm 1 4 3 4 0;copy 2 2 2;pin 0 0;pin 9 0;slot 2 1 0 9 0;").lock(0), 3);
        c.same("of the order, not the number", Checks.made("arm 5 4 3 4 0;pin 0 0;pin 0 0;pin 9 0;slot 2 1 0 9 0;copy 4 1 1;").lock(0), 43);
        c.same("one by 1 is passed by", Checks.made("copy 3 3 3;pin 0 0;pin 9 0;arm 1 4 2 4 0;slot 1 1 0 9 0;").lock(0), 33);
        c.same("by 2", Checks.made(ROOTS + "copy 2 3 0;").lock(0), 62);
        c.same("by 4", Checks.made(farOut(false) + "copy 3 1 0;stop 1=1;").lock(0), 54);
        DrawingBars placed = Checks.made("pin 0 0;");
        c.same("all are placed", placed.lock(0), NONE);
        c.same("and that is good", placed.good(0), true);
    }

    private static void lockedByStops() {
        for (int first = 0; first <= 4; first++) {
            StringBuilder text = new StringBuilder("pin 0 0;");
            for (int i = 0; i < 4; i++) {
                text.append(i >= first ? "stop x 0=0;" : "stop x 0=1;");
            }
            c.same("stop " + first, Checks.made(text.toString()).lock(0), first == 4 ? NONE : 1000 + first);
            c.same("stop " + first, Checks.made(text.toString()).good(0), first == 4);
        }
        c.same("no stop", Checks.made("pin 0 0;").lock(0), NONE);
        c.same("a joint ahead of a stop", Checks.made("pin 0 0;pin 9 0;arm 0 4 1 4 0;stop 0=0;").lock(0), 23);
        c.same("behind a joint that is placed", Checks.made("pin 0 0;pin 8 0;arm 0 4 1 4 0;stop 0=0;").lock(0), 1000);
    }

    private static void firstLocked() {
        c.same("without a board", new DrawingBars().first(), NONE);
        for (int i = 0; i < 3; i++) {
            String wheel = "pin 70 70;wheel 0 " + RADII[i] + ";";
            c.same("none", Checks.made(wheel).first(), NONE);
            DrawingBars all = Checks.made(wheel);
            int last = STEPS[i] - 1;
            int x = all.place(last, 1, 0);
            int y = all.place(last, 1, 1);
            DrawingBars bars = Checks.made(wheel + "stop x 1=" + x + " and y 1=" + y + ";");
            c.same("the last of " + STEPS[i], bars.first(), last);
            c.same("the one before", bars.lock(last - 1), NONE);
            c.same("its lock", bars.lock(last), 1000);
            c.same("all", Checks.made(wheel + "stop 1=1;").first(), 0);
            c.same("all but the first", Checks.made(wheel + "stop not x 1=" + (70 + RADII[i]) + ";").first(), 1);
        }
    }
}
