/** The edges of bars: which hold just so, which just touch, in how few layers, and which all cross each other. */
public final class BarEdgesTest {
    private static final Checks c = new Checks();
    private static final int NONE = DrawingBars.NONE;
    private static final int[] WILD = {-1, Integer.MIN_VALUE, Integer.MAX_VALUE};

    public static void main(String[] args) {
        noSuchBar();
        numbersOfABar();
        justSoLong();
        longestAndShortest();
        fractionsApart();
        rootsApart();
        unlikeRoots();
        notPlaced();
        holdsAtLockedSteps();
        touchOrNot();
        farTouch();
        jointInCommon();
        allJointsPlaced();
        endsThatMove();
        asDrawn();
        crossersAtGoodSteps();
        oneBarTwice();
        fewestLayers();
        firstOfSuchWays();
        greatestClique();
        layersWithoutBars();
        c.end();
    }

    private static String pins(int... places) {
        StringBuilder text = new StringBuilder();
        for (int i = 0; i < places.length; i += 2) {
            text.append("pin ").append(places[i]).append(' ').append(places[i + 1]).append(';');
        }
        return text.toString();
    }

    /** Bars between joints 0 and 1, 2 and 3, and so on. */
    private static String barsOf(int many) {
        StringBuilder text = new StringBuilder();
        for (int i = 0; i < many; i++) {
            text.append("bar ").append(2 * i).append(' ').append(2 * i + 1).append(" 1;");
        }
        return text.toString();
    }

    private static void noSuchBar() {
        for (int many = 0; many <= 8; many += 4) {
            DrawingBars bars = Checks.made(pins(0, 0, 9, 9) + "bar 0 1 7;".repeat(many));
            c.same("bars", bars.told(1), many);
            int last = many - 1;
            if (many > 0) {
                c.same("the last", bars.bar(last, 2), 7);
                c.same("the last holds not", bars.holds(0, last), 0);
                c.same("the last and the first", bars.cross(0, last, 0), false);
                c.same("the last and the first", bars.crossers(last, 0), NONE);
            }
            for (int beyond : new int[] {many, many + 1, 8, -1, Integer.MAX_VALUE, Integer.MIN_VALUE}) {
                c.noElement("bar " + beyond, () -> bars.bar(beyond, 0));
                c.noElement("bar ahead of what " + beyond, () -> bars.bar(beyond, 9));
                c.noElement("holds " + beyond, () -> bars.holds(0, beyond));
                c.noElement("cross " + beyond, () -> bars.cross(0, beyond, 0) ? 1 : 0);
                c.noElement("cross " + beyond, () -> bars.cross(0, 0, beyond) ? 1 : 0);
                c.noElement("cross, though they are one " + beyond, () -> bars.cross(0, beyond, beyond) ? 1 : 0);
                c.noElement("crossers " + beyond, () -> bars.crossers(beyond, 0));
                c.noElement("crossers " + beyond, () -> bars.crossers(0, beyond));
                c.noElement("crossers, though they are one " + beyond, () -> bars.crossers(beyond, beyond));
            }
        }
    }

    private static void numbersOfABar() {
        DrawingBars bars = Checks.made("pin 0 0;".repeat(16) + "bar 15 0 1;bar 0 15 999;");
        int[][] due = {{15, 0, 1}, {0, 15, 999}};
        for (int i = 0; i < 2; i++) {
            for (int what = 0; what < 3; what++) {
                c.same("bar " + i, bars.bar(i, what), due[i][what]);
            }
        }
        for (int what : new int[] {3, -1, Integer.MAX_VALUE, Integer.MIN_VALUE}) {
            c.badArgument("what " + what, () -> bars.bar(0, what));
        }
    }

    private static int holds(String joints, int a, int b, int length) {
        return Checks.made(joints + "bar " + a + " " + b + " " + length + ";").holds(0, 0);
    }

    /** Exactly L apart: neither one less nor one more, and no root that lies between. */
    private static void justSoLong() {
        for (int dx = 0; dx <= 13; dx++) {
            for (int dy = 0; dy <= 13; dy++) {
                for (int length = 1; length <= 19; length++) {
                    int due = dx * dx + dy * dy == length * length ? 1 : 0;
                    c.same(dx + " and " + dy + " by " + length, holds(pins(20, 20, 20 + dx, 20 - dy), 0, 1, length), due);
                }
            }
        }
        c.same("at one place", holds(pins(7, 7, 7, 7), 0, 1, 1), 0);
    }

    private static void longestAndShortest() {
        String row = pins(0, 0, 199, 0) + "copy 1 1 0;copy 2 2 0;copy 3 1 0;" + pins(4, 0) + "copy 4 5 0;" + pins(5, 0)
                + "copy 4 7 0;" + pins(3, 0) + "copy 4 9 0;" + pins(0, 1) + "copy 6 11 0;";
        c.same("999", holds(row, 0, 6, 999), 1);
        c.same("999, told the other way", holds(row, 6, 0, 999), 1);
        c.same("1,000", holds(row, 0, 8, 999), 0);
        c.same("998", holds(row, 0, 10, 999), 0);
        c.same("998", holds(row, 0, 10, 998), 1);
        c.same("a little more than 999", holds(row, 0, 12, 999), 0);
        c.same("1", holds(row, 6, 8, 1), 1);
        c.same("2", holds(row, 10, 8, 1), 0);
        c.same("0", holds(row + "copy 6 0 0;", 6, 13, 1), 0);
        String far = pins(0, 0, 125, 125) + "along 0 1 16;along 0 2 16;copy 0 0 3;" + pins(0, 99) + "copy 3 0 5;copy 4 5 0;";
        c.same("a way across the field and L", holds(far, 3, 4, 999), 0);
        c.same("99 at the upper edge", holds(far, 3, 6, 99), 1);
        c.same("98 at the upper edge", holds(far, 3, 6, 98), 0);
        c.same("99 at the lower edge", holds(far, 7, 4, 99), 1);
        c.same("100 at the lower edge", holds(far, 7, 4, 100), 0);
    }

    /** Places without a root that are not whole: told from a whole one, exactly. */
    private static void fractionsApart() {
        String fifths = pins(0, 0, 5, 0) + "arm 0 3 1 4 0;along 0 2 16;along 2 0 16;";
        for (int length = 1; length <= 5; length++) {
            c.same("three by " + length, holds(fifths, 0, 2, length), length == 3 ? 1 : 0);
            c.same("four by " + length, holds(fifths, 2, 1, length), length == 4 ? 1 : 0);
        }
        c.same("four times three", holds(fifths, 0, 3, 12), 1);
        c.same("three times three back", holds(fifths, 0, 4, 9), 1);
        c.same("of one root, the other way round", holds(fifths, 3, 4, 21), 1);
        c.same("of one root, one less", holds(fifths, 3, 4, 20), 0);
        String quarters = pins(0, 0, 1, 0, 3, 0) + "along 0 1 1;along 0 2 1;along 0 2 3;";
        c.same("a quarter", holds(quarters, 0, 3, 1), 0);
        c.same("three quarters", holds(quarters, 4, 0, 1), 0);
        c.same("two and a quarter", holds(quarters, 0, 5, 2), 0);
    }

    /** Joints of one root: the root goes out, or stands in both parts, along as well as across. */
    private static void rootsApart() {
        for (int[] second : new int[][] {{10, 0}, {8, 6}, {6, 8}, {0, 10}}) {
            for (int side = 0; side < 2; side++) {
                rootsApart(pins(0, 0, second[0], second[1]) + "arm 0 10 1 10 " + side
                        + ";copy 2 1 0;copy 2 2 0;along 0 2 1;along 2 0 3;along 0 2 5;copy 0 0 2;");
            }
        }
        rationalPartsThatFit();
    }

    private static void rootsApart(String text) {
        int[][] due = {{0, 2, 10}, {1, 2, 10}, {2, 3, 10}, {3, 4, 10}, {0, 4, 20}, {2, 4, 10}, {8, 2, 20}, {8, 4, 30}, {5, 7, 10}, {8, 0, 10},
            {8, 3, 0}, {1, 3, 10}, {5, 6, 0}, {0, 5, 0}, {7, 0, 0}, {5, 2, 0}};
        for (int[] bar : due) {
            for (int length = 1; length <= 31; length++) {
                c.same(text + bar[0] + " to " + bar[1] + " by " + length, holds(text, bar[0], bar[1], length), length == bar[2] ? 1 : 0);
                c.same(text + bar[1] + " to " + bar[0] + " by " + length, holds(text, bar[1], bar[0], length), length == bar[2] ? 1 : 0);
            }
        }
    }

    /** The part without a root is just L's square, but the root does not go out: it does not hold. */
    private static void rationalPartsThatFit() {
        String level = pins(0, 0, 10, 0) + "arm 0 10 1 10 0;";
        c.same("100 less 50 roots of 3", holds(level + pins(5, 5), 2, 3, 10), 0);
        c.same("196 less 110 roots of 3", holds(level + pins(5, 11), 2, 3, 14), 0);
        c.same("100 and 50 roots of 3", holds(pins(0, 0, 10, 0) + "arm 1 10 0 10 0;" + pins(5, 5), 2, 3, 10), 0);
        String tilted = pins(0, 0, 8, 6) + "arm 0 10 1 10 0;";
        c.same("100 and 48 roots of 3", holds(tilted + pins(8, 0), 2, 3, 10), 0);
        c.same("where the root goes out", holds(tilted + pins(8, 6), 2, 3, 10), 1);
        String steep = pins(0, 0, 0, 10) + "arm 0 10 1 10 1;";
        c.same("100 less 50 roots of 3, along", holds(steep + pins(5, 5), 2, 3, 10), 0);
    }

    /** None: both are not whole, of unlike roots, be they at one place; one that is whole has none. */
    private static void unlikeRoots() {
        String text = pins(0, 0, 10, 0) + "arm 0 10 1 10 0;arm 0 10 1 10 0;along 0 2 2;copy 3 1 0;along 0 1 1;along 0 1 1;"
                + "slot 0 10 0 5 0;copy 2 0 2;arm 0 6 1 4 0;";
        int[][] none = {{2, 3}, {4, 5}, {3, 4}, {2, 5}, {6, 7}, {2, 6}, {8, 2}, {8, 6}, {4, 7}};
        for (int[] bar : none) {
            c.same("unlike " + bar[0] + " " + bar[1], holds(text, bar[0], bar[1], 5), NONE);
            c.same("unlike " + bar[1] + " " + bar[0], holds(text, bar[1], bar[0], 5), NONE);
        }
        int[][] some = {{2, 0}, {4, 2}, {5, 3}, {9, 2}, {10, 3}, {9, 10}, {0, 6}, {1, 8}};
        for (int[] bar : some) {
            c.same("like " + bar[0] + " " + bar[1], holds(text, bar[0], bar[1], 100), 0);
            c.same("like " + bar[1] + " " + bar[0], holds(text, bar[1], bar[0], 100), 0);
        }
    }

    private static void notPlaced() {
        String text = pins(0, 0, 9, 0) + "arm 0 4 1 4 0;copy 2 0 0;copy 4 4 4;";
        for (int[] bar : new int[][] {{2, 0}, {0, 2}, {3, 1}, {1, 3}, {2, 3}, {4, 0}, {0, 4}}) {
            c.same("not placed " + bar[0] + " " + bar[1], holds(text, bar[0], bar[1], 9), NONE);
        }
        c.same("placed, though others are not", holds(text, 0, 1, 9), 1);
    }

    private static void holdsAtLockedSteps() {
        DrawingBars bars = Checks.made("pin 10 10;wheel 0 5;bar 0 1 5;bar 0 1 4;bar 0 1 6;stop 1=1;");
        for (int s = 0; s < 12; s++) {
            c.same("locked", bars.good(s), false);
            c.same("holds", bars.holds(s, 0), 1);
            c.same("too short", bars.holds(s, 1), 0);
            c.same("too long", bars.holds(s, 2), 0);
        }
    }

    private static boolean crossed(int... places) {
        DrawingBars bars = Checks.made(pins(places) + barsOf(2));
        boolean cross = bars.cross(0, 0, 1);
        c.same("the other way round", bars.cross(0, 1, 0), cross);
        c.same("crossers", bars.crossers(0, 1), cross ? 0 : NONE);
        return cross;
    }

    /** A point in common: every place of an end on a small field against a bar that stays. */
    private static void touchOrNot() {
        for (int x = 0; x <= 8; x++) {
            for (int y = 0; y <= 6; y++) {
                c.same("level, down to " + x + " " + y, crossed(2, 3, 6, 3, x, y, x, 6), x >= 2 && x <= 6 && y <= 3);
                c.same("level, from the left to " + x + " " + y, crossed(2, 3, 6, 3, 0, y, x, y), y == 3 && x >= 2);
                c.same("steep, to " + x + " " + y, crossed(4, 1, 4, 5, 0, y, x, y), x >= 4 && y >= 1 && y <= 5);
                c.same("a point " + x + " " + y, crossed(2, 1, 6, 5, x, y, x, y), x - y == 1 && x >= 2 && x <= 6);
                c.same("on one line, from its end " + x + " " + y, crossed(2, 2, 4, 4, 4 + x, 4 + x, 9 + x, 9 + x), x == 0);
            }
        }
        c.same("two points at one place", crossed(3, 3, 3, 3, 3, 3, 3, 3), true);
        c.same("two points, one off", crossed(3, 3, 3, 3, 3, 4, 3, 4), false);
        c.same("end on end", crossed(0, 0, 5, 5, 5, 5, 9, 0), true);
        c.same("end one off the end", crossed(0, 0, 5, 5, 6, 5, 9, 0), false);
        c.same("alike", crossed(1, 2, 7, 5, 1, 2, 7, 5), true);
        c.same("one within the other", crossed(0, 0, 9, 3, 3, 1, 6, 2), true);
        c.same("beside each other", crossed(0, 0, 9, 3, 0, 1, 9, 4), false);
        c.same("the lines would meet beyond one end", crossed(0, 0, 4, 0, 5, 9, 5, 1), false);
        c.same("the lines would meet beyond both ends", crossed(0, 0, 1, 1, 9, 0, 8, 1), false);
        c.same("just above a long bar", crossed(0, 0, 199, 198, 198, 198, 198, 199), false);
        c.same("just through it", crossed(0, 0, 199, 198, 198, 197, 198, 199), true);
        c.same("just below it", crossed(0, 0, 199, 198, 198, 197, 198, 0), false);
        c.same("just on its end", crossed(0, 0, 199, 198, 199, 198, 199, 0), true);
        c.same("just past its end", crossed(0, 0, 198, 197, 199, 198, 199, 0), false);
    }

    /** At the edges of the field the numbers are greatest. */
    private static void farTouch() {
        DrawingBars bars = Checks.made(pins(0, 0, 125, 125) + "along 0 1 16;along 0 2 16;copy 0 0 3;" + pins(125, 0)
                + "along 0 5 16;along 0 6 16;copy 7 7 3;copy 0 0 8;" + pins(1, 0) + "copy 3 0 10;" + pins(0, 1) + "copy 4 12 0;"
                + "bar 3 4 1;bar 8 9 1;bar 11 13 1;bar 7 10 1;bar 3 9 1;");
        c.same("one end", bars.place(0, 8, 1), -2000);
        c.same("the other", bars.place(0, 9, 0), -2000);
        c.same("corner to corner", bars.cross(0, 0, 1), true);
        c.same("beside each other through all the field", bars.cross(0, 0, 2), false);
        c.same("from the other corner through both", bars.cross(0, 1, 2), true);
        c.same("along the middle, one short", bars.cross(0, 0, 3), false);
        c.same("along the middle, one short, the other way", bars.cross(0, 3, 1), false);
        c.same("just on the upper edge", bars.cross(0, 2, 4), true);
        c.same("a joint in common at the corner", bars.cross(0, 0, 4), false);
        c.same("a joint in common at the other corner", bars.cross(0, 4, 1), false);
    }

    /** Two bars with a joint in common do not cross, whichever ends it is; joints at one place are not one. */
    private static void jointInCommon() {
        String joints = pins(0, 0, 8, 8, 8, 0, 0, 0);
        for (String two : new String[] {"bar 0 1 1;bar 0 2 1;", "bar 0 1 1;bar 2 0 1;", "bar 1 0 1;bar 0 2 1;", "bar 1 0 1;bar 2 0 1;",
            "bar 0 1 1;bar 0 1 1;", "bar 0 1 1;bar 1 0 1;"}) {
            DrawingBars bars = Checks.made(joints + two);
            c.same(two, bars.cross(0, 0, 1), false);
            c.same(two, bars.cross(0, 1, 0), false);
            c.same(two, bars.crossers(0, 1), NONE);
            c.same(two, bars.layers(0), 1);
        }
        c.same("at one place", Checks.made(joints + "bar 0 1 1;bar 3 2 1;").cross(0, 0, 1), true);
    }

    private static void allJointsPlaced() {
        String lost = pins(0, 0, 9, 9, 0, 9, 9, 0) + "arm 0 1 1 1 0;";
        for (String two : new String[] {"bar 4 1 1;bar 2 3 1;", "bar 1 4 1;bar 2 3 1;", "bar 2 3 1;bar 4 1 1;", "bar 2 3 1;bar 1 4 1;",
            "bar 0 4 1;bar 2 3 1;", "bar 0 1 1;bar 4 3 1;", "bar 0 1 1;bar 2 4 1;"}) {
            c.same(two, Checks.made(lost + two).cross(0, 0, 1), false);
        }
        c.same("a joint of neither", Checks.made(lost + "bar 0 1 1;bar 2 3 1;").cross(0, 0, 1), true);
        c.same("not placed at one step", Checks.made("pin 10 10;wheel 0 5;pin 20 10;arm 1 7 2 5 0;pin 20 12;pin 9 12;bar 3 0 1;bar 4 5 1;")
                .cross(6, 0, 1), false);
    }

    /** Bars cross as drawn, not as they are. */
    private static void asDrawn() {
        String text = pins(0, 0, 3, 3, 0, 3, 3, 0) + "along 0 1 1;along 0 3 3;copy 0 0 4;";
        c.same("three quarters are drawn at 0", Checks.made(text + "bar 4 3 1;bar 0 2 1;").cross(0, 0, 1), true);
        c.same("two and a quarter at 2", Checks.made(text + pins(2, 0, 2, 3) + "bar 0 5 1;bar 7 8 1;").cross(0, 0, 1), true);
        c.same("and not at 3", Checks.made(text + "bar 0 5 1;bar 3 1 1;").cross(0, 0, 1), false);
        c.same("below 0 at -1", Checks.made(text + "bar 6 2 1;bar 0 3 1;").cross(0, 0, 1), false);
    }

    /** On which side of the way from one to two a third one lies. */
    private static int side(int[] one, int[] two, int[] third) {
        return Integer.signum((two[0] - one[0]) * (third[1] - one[1]) - (two[1] - one[1]) * (third[0] - one[0]));
    }

    private static boolean between(int[] one, int[] two, int[] third) {
        return side(one, two, third) == 0 && Math.min(one[0], two[0]) <= third[0] && third[0] <= Math.max(one[0], two[0])
                && Math.min(one[1], two[1]) <= third[1] && third[1] <= Math.max(one[1], two[1]);
    }

    private static boolean meet(int[] a, int[] b, int[] d, int[] e) {
        boolean through = side(a, b, d) * side(a, b, e) < 0 && side(d, e, a) * side(d, e, b) < 0;
        return through || between(a, b, d) || between(a, b, e) || between(d, e, a) || between(d, e, b);
    }

    /** At each step the ends are where they are then, each of the four; and a joint that is lost then is not placed then. */
    private static void endsThatMove() {
        String joints = "pin 20 20;wheel 0 25;copy 0 0 1;slot 1 24 0 20 1;slot 2 24 1 20 0;pin 30 30;pin 40 20;pin 20 5;arm 1 9 5 20 0;";
        int[][] ends = {{1, 2}, {3, 4}, {5, 6}, {7, 5}, {1, 7}, {6, 2}, {8, 7}, {3, 5}};
        StringBuilder text = new StringBuilder(joints);
        for (int[] bar : ends) {
            text.append("bar ").append(bar[0]).append(' ').append(bar[1]).append(" 1;");
        }
        int crossed = 0;
        int lost = 0;
        for (int s = 0; s < 20; s++) {
            DrawingBars bars = Checks.made(text.toString());
            int[][] at = new int[9][];
            for (int j = 0; j < 9; j++) {
                at[j] = bars.why(s, j) == 0 ? new int[] {bars.place(s, j, 0), bars.place(s, j, 1)} : null;
                lost += at[j] == null ? 1 : 0;
            }
            for (int bar = 0; bar < 8; bar++) {
                for (int other = 0; other < 8; other++) {
                    int[] p = ends[bar];
                    int[] q = ends[other];
                    boolean common = p[0] == q[0] || p[0] == q[1] || p[1] == q[0] || p[1] == q[1];
                    boolean placed = at[p[0]] != null && at[p[1]] != null && at[q[0]] != null && at[q[1]] != null;
                    if (bar != other) {
                        boolean due = !common && placed && meet(at[p[0]], at[p[1]], at[q[0]], at[q[1]]);
                        c.same("at " + s + ", " + bar + " and " + other, bars.cross(s, bar, other), due);
                        crossed += due ? 1 : 0;
                    }
                }
            }
        }
        c.same("some cross, some are lost", crossed > 20 && lost > 4, true);
    }

    private static String wheelWith(String stop) {
        return "pin 10 10;wheel 0 5;pin 13 6;pin 14 9;pin 13 4;pin 16 4;bar 0 1 5;bar 2 3 1;bar 4 5 1;" + stop;
    }

    /** The first good step at which they do; none, if they do at locked ones alone. */
    private static void crossersAtGoodSteps() {
        DrawingBars bars = Checks.made(wheelWith(""));
        int[] due = {0, 0, 0, 0, 0, 0, 0, 0, 0, 0, 1, 1};
        for (int s = 0; s < 12; s++) {
            c.same("at step " + s, bars.cross(s, 0, 1), due[s] == 1);
        }
        c.same("the first", bars.crossers(0, 1), 10);
        c.same("the first, told the other way", bars.crossers(1, 0), 10);
        c.same("never", bars.crossers(0, 2), NONE);
        c.same("two layers", bars.layers(1), 121);
        DrawingBars later = Checks.made(wheelWith("stop x 1=13 and y 1=6;"));
        c.same("the last step alone", later.crossers(0, 1), 11);
        c.same("cross at the locked one", later.cross(10, 0, 1), true);
        DrawingBars none = Checks.made(wheelWith("stop x 1>12 and y 1<8;"));
        c.same("at locked ones alone", none.crossers(0, 1), NONE);
        c.same("cross there", none.cross(11, 0, 1), true);
        c.same("one layer", none.layers(0), 1);
        c.same("one alone", none.layers(2), 1);
        c.same("at step 0", Checks.made(wheelWith("bar 2 5 1;bar 3 4 1;")).crossers(3, 4), 0);
    }

    private static void oneBarTwice() {
        DrawingBars bars = Checks.made(pins(0, 0, 9, 9) + "bar 0 1 1;bar 1 0 1;");
        for (int bar = 0; bar < 2; bar++) {
            int one = bar;
            c.badArgument("cross", () -> bars.cross(0, one, one) ? 1 : 0);
            c.badArgument("crossers", () -> bars.crossers(one, one));
        }
        for (int step : WILD) {
            c.noIndex("the step ahead of that", () -> bars.cross(step, 0, 0) ? 1 : 0);
            c.noIndex("the step ahead of others", () -> bars.cross(step, 9, 9) ? 1 : 0);
        }
    }

    private static void layers(String what, String text, int many, int way, int clique) {
        DrawingBars bars = Checks.made(text);
        c.same(what + ", how many", bars.layers(0), many);
        c.same(what + ", the way", bars.layers(1), way);
        c.same(what + ", the clique", bars.layers(2), clique);
        c.same(what + ", asked again", bars.layers(1), way);
    }

    /** n bars from below to above that all cross each other in pairs. */
    private static String star(int many) {
        StringBuilder text = new StringBuilder();
        for (int i = 0; i < many; i++) {
            text.append(pins(i, 0, 7 - i, 9));
        }
        return text + barsOf(many);
    }

    /** n bars beside each other. */
    private static String fence(int many) {
        StringBuilder text = new StringBuilder();
        for (int i = 0; i < many; i++) {
            text.append(pins(i, 0, i, 9));
        }
        return text + barsOf(many);
    }

    private static void fewestLayers() {
        int[] stars = {0, 1, 12, 123, 1234, 12345, 123456, 1234567, 12345678};
        int[] fences = {0, 1, 11, 111, 1111, 11111, 111111, 1111111, 11111111};
        for (int n = 1; n <= 8; n++) {
            layers("all cross " + n, star(n), n, stars[n], (1 << n) - 1);
            layers("none crosses " + n, fence(n), 1, fences[n], 1);
        }
        layers("seven of eight all cross", star(7) + pins(50, 50, 60, 60) + "bar 14 15 1;", 7, 12345671, 127);
        layers("one crosses the last alone", pins(50, 50, 60, 60) + star(7).replaceAll("bar.*", "") + "bar 0 1 1;"
                + barsOf(8).substring(barsOf(1).length()), 7, 11234567, 254);
        oneBesideAStar();
        layers("no good step", star(8) + "stop 1=1;", 1, 11111111, 1);
    }

    /** A bar that crosses none, told at each place among those that all cross each other: it is in layer 1. */
    private static void oneBesideAStar() {
        for (int many = 2; many <= 7; many++) {
            for (int place = 0; place <= many; place++) {
                StringBuilder text = new StringBuilder();
                int way = 0;
                int clique = 0;
                for (int i = 0; i <= many; i++) {
                    int layer = i < place ? i + 1 : i == place ? 1 : i;
                    way = way * 10 + layer;
                    clique |= i == place ? 0 : 1 << i;
                    text.append(i == place ? pins(50, 50, 60, 60) : pins(layer, 0, 9 - layer, 9));
                }
                layers("one at " + place + " beside " + many, text + barsOf(many + 1), many, way, clique);
            }
        }
    }

    /** Of the ways with the fewest layers the first, bar by bar. */
    private static void firstOfSuchWays() {
        layers("a row of four, the ends first", pins(5, 5, 5, 15, 10, 25, 30, 25, 0, 10, 20, 10, 15, 5, 15, 30) + barsOf(4), 2, 1221, 5);
        layers("a row of four", pins(0, 1, 9, 1, 8, 0, 8, 5, 7, 4, 19, 4, 18, 3, 18, 9) + barsOf(4), 2, 1212, 3);
        layers("one across three", pins(1, 0, 1, 9, 3, 0, 3, 9, 5, 0, 5, 9, 0, 5, 9, 5) + barsOf(4), 2, 1112, 9);
        layers("three across one", pins(0, 5, 9, 5, 1, 0, 1, 9, 3, 0, 3, 9, 5, 0, 5, 9) + barsOf(4), 2, 1222, 3);
        layers("two across two", pins(0, 5, 9, 5, 0, 6, 9, 6, 1, 0, 1, 9, 3, 0, 3, 9) + barsOf(4), 2, 1122, 5);
        layers("a ring of five", pins(0, 5, 20, 5, 18, 0, 18, 20, 20, 18, 5, 18, 10, 20, 2, 9, 1, 12, 5, 0)
                + barsOf(5).replace("1;", "9;"), 3, 12123, 3);
    }

    /** The greatest set of which all are crossers of each other; of these the least as bits. */
    private static void greatestClique() {
        layers("0 with 3, 1 with 2", pins(0, 0, 9, 9, 20, 0, 29, 9, 20, 9, 29, 0, 0, 9, 9, 0) + barsOf(4), 2, 1122, 6);
        layers("0 with 1, 2 with 3", pins(0, 0, 9, 9, 0, 9, 9, 0, 20, 0, 29, 9, 20, 9, 29, 0) + barsOf(4), 2, 1212, 3);
        layers("three ahead of two", pins(0, 0, 9, 9, 0, 9, 9, 0, 20, 0, 29, 9, 20, 9, 29, 0, 20, 4, 29, 4) + barsOf(5), 3, 12123, 28);
        layers("two threes", pins(0, 0, 9, 9, 0, 9, 9, 0, 0, 4, 9, 4, 20, 0, 29, 9, 20, 9, 29, 0, 20, 4, 29, 4) + barsOf(6), 3, 123123, 7);
    }

    private static void layersWithoutBars() {
        for (int what = 0; what < 3; what++) {
            c.same("without bars", Checks.made("pin 0 0;").layers(what), 0);
            c.same("without a board", new DrawingBars().layers(what), 0);
        }
        for (int what : new int[] {-1, 3, Integer.MAX_VALUE, Integer.MIN_VALUE}) {
            c.badArgument("what " + what, () -> Checks.made(star(3)).layers(what));
            c.badArgument("what " + what, () -> new DrawingBars().layers(what));
        }
    }
}
