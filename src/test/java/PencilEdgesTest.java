/** The edges of turning, runs, the pencil's curve, likenesses and what draws larger, at every choice of good steps. */
public final class PencilEdgesTest {
    private static final Checks c = new Checks();
    private static final int NONE = DrawingBars.NONE;
    /** The wheel of 5 round 10 10, leftward from the right. */
    private static final int[] XS = {15, 14, 13, 10, 7, 6, 5, 6, 7, 10, 13, 14};
    private static final int[] YS = {10, 13, 14, 15, 14, 13, 10, 7, 6, 5, 6, 7};
    private static final int[] WILD = {Integer.MAX_VALUE, Integer.MIN_VALUE};

    public static void main(String[] args) {
        for (int good = 0; good < 4096; good++) {
            everyChoice(good);
        }
        turnBounds();
        turnWithoutWheel();
        turnFromALockedStep();
        runRound();
        runOfNone();
        noPencil();
        curveOfNoneAndOne();
        curveAsDrawn();
        curveAtTheEdges();
        jumpRound();
        likeOfFew();
        likeButForOne();
        largerByQuarters();
        largerAtItsBounds();
        largerAtGoodStepsAlone();
        largerUnlike();
        largerBothWays();
        noSuchJointToDrawLarger();
        lotsBounds();
        lotsStop();
        lotsOfOneStep();
        lotsBySeed();
        c.end();
    }

    /** A wheel that is good at these steps alone (bits), and its pencil. */
    private static String goodAt(int steps) {
        StringBuilder text = new StringBuilder("pin 10 10;wheel 0 5;pencil 1;");
        if (steps == 0) {
            return text + "stop 1=1;";
        }
        String ahead = "stop not [";
        for (int s = 0; s < 12; s++) {
            if ((steps >> s & 1) == 1) {
                text.append(ahead).append("x 1=" + XS[s] + " and y 1=" + YS[s]);
                ahead = " or ";
            }
        }
        return text + "];";
    }

    private static boolean is(int good, int step) {
        return (good >> Math.floorMod(step, 12) & 1) == 1;
    }

    private static int way(int step) {
        int next = (step + 1) % 12;
        return Math.abs(XS[next] - XS[step]) + Math.abs(YS[next] - YS[step]);
    }

    private static void everyChoice(int good) {
        DrawingBars bars = Checks.made(goodAt(good));
        String what = "good " + Integer.toBinaryString(good);
        int first = NONE;
        int longest = 0;
        int from = NONE;
        int length = 0;
        int jump = NONE;
        for (int s = 11; s >= 0; s--) {
            c.same(what + " at " + s, bars.good(s), is(good, s));
            first = is(good, s) ? first : s;
            int many = 0;
            while (many < 12 && is(good, s + many)) {
                many++;
            }
            from = many >= longest && many > 0 ? s : from;
            longest = Math.max(longest, many);
            if (is(good, s) && is(good, s + 1)) {
                length += way(s);
                jump = jump == NONE || way(s) >= way(jump) ? s : jump;
            }
        }
        c.same(what + " first", bars.first(), first);
        c.same(what + " run from", bars.run(0), from);
        c.same(what + " run long", bars.run(1), longest);
        c.same(what + " closed", bars.curve(1), good == 4095 ? 1 : 0);
        c.same(what + " squares", bars.curve(0), Integer.bitCount(good));
        c.same(what + " long", bars.curve(4), length);
        c.same(what + " jump", bars.jump(0), jump == NONE ? 0 : way(jump));
        c.same(what + " jump from", bars.jump(1), jump);
        turns(what, bars, good);
        reach(what, bars, good);
    }

    private static void turns(String what, DrawingBars bars, int good) {
        for (int n : new int[] {1, 3, 100, -1, -2, -100, 0}) {
            bars.take(0);
            int went = 0;
            int way = Integer.signum(n);
            while (went < Math.abs(n) && is(good, way * (went + 1))) {
                went++;
            }
            c.same(what + " turn " + n, bars.turn(n), went);
            c.same(what + " now", bars.now(), Math.floorMod(way * went, 12));
        }
    }

    /** Columns, rows and likenesses of the squares that are good. */
    private static void reach(String what, DrawingBars bars, int good) {
        int left = 99;
        int right = -1;
        int low = 99;
        int high = -1;
        for (int s = 0; s < 12; s++) {
            if (is(good, s)) {
                left = Math.min(left, XS[s]);
                right = Math.max(right, XS[s]);
                low = Math.min(low, YS[s]);
                high = Math.max(high, YS[s]);
            }
        }
        c.same(what + " columns", bars.curve(2), good == 0 ? 0 : right - left + 1);
        c.same(what + " rows", bars.curve(3), good == 0 ? 0 : high - low + 1);
        for (int how = 0; how < 3; how++) {
            boolean like = true;
            for (int s = 0; s < 12; s++) {
                int x = how == 1 ? XS[s] : left + right - XS[s];
                int y = how == 0 ? YS[s] : low + high - YS[s];
                boolean there = false;
                for (int t = 0; t < 12; t++) {
                    there |= is(good, t) && XS[t] == x && YS[t] == y;
                }
                like &= there || !is(good, s);
            }
            c.same(what + " like " + how, bars.like(how), like);
        }
    }

    /** n from -100 to 100. */
    private static void turnBounds() {
        DrawingBars bars = Checks.made(goodAt(4095));
        c.same("100 on", bars.turn(100), 100);
        c.same("now", bars.now(), 4);
        c.same("100 back", bars.turn(-100), 100);
        c.same("now", bars.now(), 0);
        c.same("one back, round", bars.turn(-1), 1);
        c.same("now", bars.now(), 11);
        c.same("one on, round", bars.turn(1), 1);
        c.same("now", bars.now(), 0);
        c.same("none", bars.turn(0), 0);
        c.same("all round", bars.turn(12), 12);
        c.same("now", bars.now(), 0);
        c.same("one more than round", bars.turn(-13), 13);
        c.same("now", bars.now(), 11);
        for (int n : new int[] {101, -101, Integer.MAX_VALUE, Integer.MIN_VALUE}) {
            c.badArgument("turn " + n, () -> bars.turn(n));
            c.same("it stays", bars.now(), 11);
            c.badArgument("turn without a board " + n, () -> new DrawingBars().turn(n));
        }
        for (int n : new int[] {100, -100, 0, 1}) {
            c.badState("turn without a board " + n, () -> new DrawingBars().turn(n));
        }
        for (int r : new int[] {25, 65}) {
            DrawingBars wide = Checks.made("pin 70 70;wheel 0 " + r + ";");
            int steps = wide.told(3);
            c.same("back", wide.turn(-1), 1);
            c.same("to the last", wide.now(), steps - 1);
            c.same("on", wide.turn(2), 2);
            c.same("past the first", wide.now(), 1);
        }
    }

    /** Round a single step the next one is that step again. */
    private static void turnWithoutWheel() {
        DrawingBars good = Checks.made("pin 0 0;");
        c.same("good", good.turn(100), 100);
        c.same("now", good.now(), 0);
        c.same("good", good.turn(-100), 100);
        c.same("now", good.now(), 0);
        DrawingBars locked = Checks.made("pin 0 0;stop 1=1;");
        c.same("locked", locked.turn(100), 0);
        c.same("locked", locked.turn(-100), 0);
        c.same("now", locked.now(), 0);
    }

    /** Only the next step is asked, not the one it comes from. */
    private static void turnFromALockedStep() {
        DrawingBars bars = Checks.made(goodAt(0b111000001110));
        c.same("on", bars.turn(9), 3);
        c.same("now", bars.now(), 3);
        bars.take(0);
        c.same("back", bars.turn(-9), 3);
        c.same("now", bars.now(), 9);
        c.same("and not onto a locked one", bars.turn(-1), 0);
        c.same("on to the last", bars.turn(9), 2);
        c.same("now", bars.now(), 11);
    }

    private static void run(int good, int from, int many) {
        DrawingBars bars = Checks.made(goodAt(good));
        c.same("run from, good " + Integer.toBinaryString(good), bars.run(0), from);
        c.same("run long, good " + Integer.toBinaryString(good), bars.run(1), many);
    }

    /** The longest row, round; of these the one that begins first; all good: from 0. */
    private static void runRound() {
        run(0b111111111111, 0, 12);
        run(0b111111111110, 1, 11);
        run(0b011111111111, 0, 11);
        run(0b111111011111, 6, 11);
        run(0b100000000001, 11, 2);
        run(0b100000000000, 11, 1);
        run(0b000000000001, 0, 1);
        run(0b100000000110, 1, 2);
        run(0b100000001101, 2, 2);
        run(0b100000011101, 2, 3);
        run(0b110000001101, 10, 3);
        run(0b010101010101, 0, 1);
        run(0b101010101010, 1, 1);
        c.same("a single step", Checks.made("pin 0 0;").run(0), 0);
        c.same("a single step", Checks.made("pin 0 0;").run(1), 1);
        c.same("all of 36", Checks.made("pin 70 70;wheel 0 65;").run(1), 36);
        c.same("all of 20", Checks.made("pin 70 70;wheel 0 25;").run(1), 20);
    }

    private static void runOfNone() {
        run(0, NONE, 0);
        c.same("a single locked step", Checks.made("pin 0 0;stop 1=1;").run(0), NONE);
        c.same("a single locked step", Checks.made("pin 0 0;stop 1=1;").run(1), 0);
        c.same("without a board", new DrawingBars().run(0), NONE);
        c.same("without a board", new DrawingBars().run(1), 0);
        for (int what : new int[] {-1, 2, Integer.MAX_VALUE, Integer.MIN_VALUE}) {
            c.badArgument("run " + what, () -> Checks.made("pin 0 0;").run(what));
            c.badArgument("run without a board " + what, () -> new DrawingBars().run(what));
        }
    }

    /** There is no pencil, or no board; a wrong what is told ahead of that. */
    private static void noPencil() {
        for (DrawingBars bars : new DrawingBars[] {new DrawingBars(), Checks.made("pin 0 0;wheel 0 5;"), Checks.made("pin 0 0;stop 1=1;")}) {
            for (int what = 0; what < 5; what++) {
                int which = what;
                c.badState("curve " + what, () -> bars.curve(which));
            }
            c.badState("jump 0", () -> bars.jump(0));
            c.badState("jump 1", () -> bars.jump(1));
            for (int what = 0; what < 3; what++) {
                int which = what;
                c.badState("like " + what, () -> bars.like(which) ? 1 : 0);
            }
            wrongWhat(bars);
        }
        wrongWhat(Checks.made(goodAt(4095)));
    }

    private static void wrongWhat(DrawingBars bars) {
        c.badArgument("curve 5", () -> bars.curve(5));
        c.badArgument("curve -1", () -> bars.curve(-1));
        c.badArgument("jump 2", () -> bars.jump(2));
        c.badArgument("jump -1", () -> bars.jump(-1));
        c.badArgument("like 3", () -> bars.like(3) ? 1 : 0);
        c.badArgument("like -1", () -> bars.like(-1) ? 1 : 0);
        for (int what : WILD) {
            c.badArgument("curve " + what, () -> bars.curve(what));
            c.badArgument("jump " + what, () -> bars.jump(what));
            c.badArgument("like " + what, () -> bars.like(what) ? 1 : 0);
        }
    }

    private static void curve(String text, int... due) {
        DrawingBars bars = Checks.made(text);
        for (int what = 0; what < 5; what++) {
            c.same(text + " curve " + what, bars.curve(what), due[what]);
        }
        c.same(text + " jump 0", bars.jump(0), due[5]);
        c.same(text + " jump 1", bars.jump(1), due[6]);
    }

    private static void curveOfNoneAndOne() {
        curve("pin 3 4;pencil 0;stop 1=1;", 0, 0, 0, 0, 0, 0, NONE);
        curve("pin 0 0;pencil 0;copy 1 1 1;", 0, 0, 0, 0, 0, 0, NONE);
        curve("pin 3 4;pencil 0;", 1, 1, 1, 1, 0, 0, 0);
        curve("pin 3 4;wheel 0 65;pencil 0;", 1, 1, 1, 1, 0, 0, 0);
        curve("pin 3 4;wheel 0 65;pencil 0;stop y 1>4 or y 1<4;", 1, 0, 1, 1, 0, 0, NONE);
        curve("pin 3 4;wheel 0 5;pencil 0;stop not x 1=6;", 1, 0, 1, 1, 0, 0, NONE);
        curve("pin 3 4;wheel 0 5;pencil 0;stop x 1<7;", 1, 0, 1, 1, 0, 0, 0);
    }

    /** Squares are places as drawn: cut down, so that some fall together, and one below 0 is not one above. */
    private static void curveAsDrawn() {
        curve("pin 0 0;wheel 0 5;along 0 1 1;pencil 2;", 9, 1, 4, 4, 12, 2, 1);
        curve("pin 0 0;wheel 0 5;pin 0 0;along 2 1 4;pencil 3;", 12, 1, 11, 11, 40, 4, 0);
        curve("pin 0 0;wheel 0 5;copy 0 0 1;pencil 2;", 12, 1, 11, 11, 40, 4, 0);
        curve("pin 9 0;wheel 0 65;copy 0 0 0;pencil 2;stop y 1<0;", 1, 0, 1, 1, 0, 0, 0);
    }

    private static void curveAtTheEdges() {
        String far = "pin 0 0;pin 125 0;along 0 1 16;along 0 2 16;copy 0 0 3;pin 5 0;copy 3 0 5;copy 4 5 0;";
        curve(far + "pencil 3;", 1, 1, 1, 1, 0, 0, 0);
        curve(far + "pencil 4;", 1, 1, 1, 1, 0, 0, 0);
        curve(far + "wheel 6 5;pencil 8;", 12, 1, 11, 11, 40, 4, 0);
        curve(far + "wheel 7 5;pencil 8;", 12, 1, 11, 11, 40, 4, 0);
        String wide = "pin 0 0;wheel 0 25;along 0 1 16;along 0 2 16;copy 0 0 3;pencil 3;stop y 1>0 or y 1<0;";
        curve(wide, 2, 0, 801, 1, 0, 0, NONE);
        curve("pin 0 0;wheel 0 25;along 0 1 16;along 0 2 16;copy 3 3 0;copy 4 4 0;copy 5 3 0;pencil 6;",
                20, 1, 4001, 4001, 16000, 960, 1);
    }

    /** The greatest way, and the first step behind which it is: from the last step to the first, too. */
    private static void jumpRound() {
        String crank = "pin 10 10;wheel 0 5;pin 20 10;arm 1 5 2 5 0;pencil 3;";
        curve(crank, 4, 0, 4, 5, 8, 5, 11);
        DrawingBars round = Checks.made(goodAt(0b100000000001));
        c.same("round", round.jump(1), 11);
        c.same("its way", round.jump(0), 4);
        DrawingBars notRound = Checks.made(goodAt(0b000000000011));
        c.same("not round", notRound.jump(1), 0);
        DrawingBars apart = Checks.made(goodAt(0b010101010101));
        c.same("no step beside a good one", apart.jump(0), 0);
        c.same("no step beside a good one", apart.jump(1), NONE);
        DrawingBars least = Checks.made(goodAt(0b000000001110));
        c.same("not the first of all, but the first of the greatest", least.jump(1), 2);
    }

    /** Within its own first to last column and row; true of none. */
    private static void likeOfFew() {
        int[][] cases = {{0b000000000000, 1, 1, 1}, {0b000000000001, 1, 1, 1}, {0b000001000001, 1, 1, 1}, {0b001000001000, 1, 1, 1},
            {0b000000000011, 0, 0, 1}, {0b000000010010, 0, 0, 1}, {0b000000010011, 0, 0, 0}, {0b000000100010, 1, 1, 1}, {0b100000000010, 1, 1, 1},
            {0b000010000010, 0, 0, 1}, {0b000000001001, 0, 0, 1}, {0b001000001001, 0, 1, 0}, {0b001001001001, 1, 1, 1}};
        for (int[] each : cases) {
            DrawingBars bars = Checks.made(goodAt(each[0]));
            for (int what = 0; what < 3; what++) {
                c.same("like " + Integer.toBinaryString(each[0]) + " " + what, bars.like(what), each[1 + what] == 1);
            }
        }
    }

    /** One square that has no likeness is enough, be it the first step's, the last's or one between; all in one column. */
    private static void likeButForOne() {
        String[] extra = {"x 1=15", "x 1=14 and y 1=7", "x 1=6 and y 1=13"};
        String column = "pin 10 10;wheel 0 5;slot 1 20 1 10 1;pencil 2;stop not [x 1=10";
        DrawingBars two = Checks.made(column + "];");
        c.same("two above each other", two.like(1), true);
        c.same("turned by half", two.like(2), true);
        for (String one : extra) {
            DrawingBars bars = Checks.made(column + " or " + one + "];");
            c.same("one column", bars.like(0), true);
            c.same("three squares", bars.curve(0), 3);
            c.same("not above for below with " + one, bars.like(1), false);
            c.same("not turned with " + one, bars.like(2), false);
        }
    }

    /** m quarters, exactly: neither one more nor one less. */
    private static void largerByQuarters() {
        for (int m = 0; m <= 16; m++) {
            DrawingBars bars = Checks.made("pin 3 4;wheel 0 25;pin 60 50;along 2 1 " + m + ";pin 70 9;arm 1 60 4 60 0;");
            for (int asked = m - 2; asked <= m + 2; asked++) {
                c.same(m + " by " + asked, bars.larger(3, 1, 2, asked), asked == m ? 1 : 0);
            }
            c.same("from another pin", bars.larger(3, 1, 0, m), m == 4 ? 1 : 0);
        }
    }

    /** m from -40 to 40: ten times as far, and ten times the other way. */
    private static void largerAtItsBounds() {
        DrawingBars bars = Checks.made("pin 0 0;wheel 0 5;along 0 1 16;copy 2 2 0;copy 3 1 0;copy 4 1 0;copy 0 0 5;copy 5 1 0;pin 9 9;");
        c.same("40", bars.larger(5, 1, 0, 40), 1);
        c.same("39", bars.larger(5, 1, 0, 39), 0);
        c.same("-40", bars.larger(6, 1, 0, -40), 1);
        c.same("-39", bars.larger(6, 1, 0, -39), 0);
        c.same("the other way round", bars.larger(6, 1, 0, 40), 0);
        c.same("44 quarters are not 40", bars.larger(7, 1, 0, 40), 0);
        c.same("0 at the pin", bars.larger(0, 1, 0, 0), 1);
        c.same("0 elsewhere", bars.larger(1, 1, 0, 0), 0);
        c.same("0 of another pin", bars.larger(8, 1, 8, 0), 1);
        c.same("nothing from nothing", bars.larger(0, 0, 0, 17), 1);
        for (int m : new int[] {41, -41, Integer.MAX_VALUE, Integer.MIN_VALUE}) {
            c.badArgument("m " + m, () -> bars.larger(5, 1, 0, m));
        }
        DrawingBars kinds = Checks.made("pin 0 0;wheel 0 5;pin 8 0;arm 0 5 2 5 0;slot 0 5 0 3 1;copy 0 0 2;along 0 2 2;");
        for (int pin : new int[] {1, 3, 4, 5, 6}) {
            c.badArgument("no pin " + pin, () -> kinds.larger(0, 0, pin, 4));
        }
        c.same("a pin behind others", kinds.larger(6, 0, 2, 2), 1);
        c.same("a pin", kinds.larger(6, 2, 0, 2), 1);
    }

    /** At each good step: a locked one is not asked. */
    private static void largerAtGoodStepsAlone() {
        String text = "pin 10 10;wheel 0 5;pin 15 10;pin 14 13;pin 14 7;";
        c.same("not at each", Checks.made(text).larger(1, 2, 0, 4), 0);
        c.same("at step 0 alone", Checks.made(text + "stop not [x 1=15];").larger(1, 2, 0, 4), 1);
        c.same("at step 1 alone", Checks.made(text + "stop not [x 1=14 and y 1=13];").larger(1, 3, 0, 4), 1);
        c.same("at the last step alone", Checks.made(text + "stop not [x 1=14 and y 1=7];").larger(1, 4, 0, 4), 1);
        c.same("so at the first, not at the last", Checks.made(text + "stop not [x 1=15 or x 1=14 and y 1=7];").larger(1, 2, 0, 4), 0);
        c.same("so at the last, not at the first", Checks.made(text + "stop not [x 1=15 or x 1=14 and y 1=7];").larger(1, 4, 0, 4), 0);
        c.same("without good steps", Checks.made(text + "stop 1=1;").larger(1, 2, 0, 4), 1);
        c.same("without good steps and unlike", Checks.made("pin 0 0;pin 1 0;along 0 1 1;along 0 1 2;stop 1=1;").larger(2, 3, 0, 4), 1);
        c.same("without a good step, not placed", Checks.made("pin 0 0;copy 1 0 0;").larger(1, 0, 0, 9), 1);
    }

    /** None: at some good step both are not whole, of unlike roots. */
    private static void largerUnlike() {
        String text = "pin 0 0;wheel 0 5;pin 1 0;along 2 1 1;along 2 1 2;";
        String atFirst = text + "stop not x 1=5;";
        String firstAndLast = text + "stop not [x 1=5 or x 1=4 and y 1<0];";
        c.same("unlike", Checks.made(text).larger(4, 3, 2, 8), NONE);
        c.same("unlike, told the other way", Checks.made(text).larger(3, 4, 2, 2), NONE);
        c.same("one is itself", Checks.made(text).larger(3, 3, 2, 4), 1);
        c.same("one is whole", Checks.made(text).larger(3, 1, 2, 1), 1);
        c.same("unlike at locked steps alone", Checks.made(atFirst).larger(4, 3, 2, 8), 1);
        c.same("unlike at locked steps alone, not so", Checks.made(atFirst).larger(4, 3, 2, 9), 0);
        c.same("unlike at the last good step", Checks.made(firstAndLast).larger(4, 3, 2, 8), NONE);
        c.same("not so ahead of that", Checks.made(firstAndLast).larger(4, 3, 2, 9), NONE);
        c.same("unlike at the first, not so at the last", Checks.made(text + "stop not [x 1=4 and y 1>0 or x 1=0-3 and y 1<0];")
                .larger(4, 3, 2, 9), NONE);
        String arms = "pin 0 0;pin 10 0;arm 0 10 1 10 0;arm 0 10 1 10 0;copy 2 2 0;copy 0 0 2;along 0 2 3;copy 3 3 0;arm 0 10 1 10 1;";
        DrawingBars bars = Checks.made(arms);
        c.same("at one place, unlike", bars.larger(2, 3, 0, 4), NONE);
        c.same("twice of one root", bars.larger(4, 2, 0, 8), 1);
        c.same("twice, 7 asked", bars.larger(4, 2, 0, 7), 0);
        c.same("the other way of one root", bars.larger(5, 2, 0, -4), 1);
        c.same("three quarters of the other way", bars.larger(6, 5, 0, -3), 1);
        c.same("twice the other root", bars.larger(7, 2, 0, 8), NONE);
        c.same("the mirrored one", bars.larger(8, 2, 0, 4), NONE);
        c.same("a root from the other pin", bars.larger(4, 2, 1, 8), 0);
        c.same("a root and a whole one", bars.larger(2, 1, 0, 4), 0);
    }

    /** The same way: as far along and as far across. */
    private static void largerBothWays() {
        DrawingBars bars = Checks.made("pin 10 10;pin 14 12;pin 18 14;pin 18 13;pin 17 14;pin 12 14;pin 6 8;pin 2 6;pin 14 10;pin 18 10;");
        int[][] due = {{2, 1, 8, 1}, {3, 1, 8, 0}, {4, 1, 8, 0}, {5, 1, 4, 0}, {6, 1, -4, 1}, {7, 1, -8, 1}, {1, 2, 2, 1}, {9, 8, 8, 1},
            {8, 1, 4, 0}, {1, 8, 4, 0}, {0, 1, 0, 1}, {1, 0, 4, 0}};
        for (int[] each : due) {
            c.same(each[0] + " of " + each[1] + " by " + each[2], bars.larger(each[0], each[1], 0, each[2]), each[3]);
        }
        DrawingBars rooted = Checks.made("pin 0 0;pin 10 0;arm 0 10 1 10 0;copy 2 1 0;copy 2 0 1;copy 2 2 0;pin 4 0;pin 0 4;"
                + "slot 0 9 1 4 1;copy 8 8 6;slot 0 9 0 4 1;copy 10 10 7;");
        c.same("all are placed", rooted.good(0), true);
        c.same("shifted along", rooted.larger(3, 2, 0, 4), 0);
        c.same("shifted back", rooted.larger(4, 2, 0, 4), 0);
        c.same("twice", rooted.larger(5, 2, 0, 8), 1);
        c.same("twice of the one shifted along", rooted.larger(5, 3, 0, 8), 0);
        c.same("twice of the one shifted back", rooted.larger(5, 4, 0, 8), 0);
        c.same("as far along, the root across twice", rooted.larger(9, 8, 0, 4), 0);
        c.same("as far along, the root across half", rooted.larger(8, 9, 0, 4), 0);
        c.same("as far across, the root along twice", rooted.larger(11, 10, 0, 4), 0);
        c.same("as far across, the root along half", rooted.larger(10, 11, 0, 4), 0);
    }

    private static void noSuchJointToDrawLarger() {
        DrawingBars bars = Checks.made("pin 0 0;wheel 0 5;pin 9 9;");
        c.same("the last", bars.larger(2, 2, 2, 4), 1);
        for (int j : new int[] {3, -1, 16, Integer.MAX_VALUE, Integer.MIN_VALUE}) {
            c.noElement("first " + j, () -> bars.larger(j, 0, 0, 4));
            c.noElement("second " + j, () -> bars.larger(0, j, 0, 4));
            c.noElement("third " + j, () -> bars.larger(0, 0, j, 4));
            c.noElement("third, ahead of m " + j, () -> bars.larger(0, 0, j, 41));
            c.noElement("second, ahead of no pin " + j, () -> bars.larger(0, j, 1, 4));
            c.noElement("without a board " + j, () -> new DrawingBars().larger(0, 0, j, 4));
        }
        c.noElement("without a board", () -> new DrawingBars().larger(0, 0, 0, 4));
    }

    /** n from 1 to 200. */
    private static void lotsBounds() {
        DrawingBars bars = Checks.made(goodAt(4095));
        for (int n : new int[] {0, 201, -1, Integer.MAX_VALUE, Integer.MIN_VALUE}) {
            c.badArgument("n " + n, () -> bars.lots(n, 1, 0));
            c.badArgument("n " + n, () -> bars.lots(n, 1, 1));
            c.badArgument("n without a board " + n, () -> new DrawingBars().lots(n, 1, 0));
        }
        for (int what : new int[] {-1, 2, Integer.MAX_VALUE, Integer.MIN_VALUE}) {
            c.badArgument("what " + what, () -> bars.lots(1, 1, what));
            c.badArgument("what without a board " + what, () -> new DrawingBars().lots(1, 1, what));
        }
        for (int n : new int[] {1, 200}) {
            c.badState("without a board", () -> new DrawingBars().lots(n, 1, 0));
            c.same("no stop", bars.lots(n, 5, 1), 0);
        }
        c.same("nothing stays turned", bars.now(), 0);
    }

    private static int[] lots(int good, int from, int n, int seed) {
        long lot = seed & 0xffffffffL;
        int step = from;
        int stops = 0;
        for (int i = 0; i < n; i++) {
            lot = lot * 1103515245L + 12345L & 0xffffffffL;
            int draw = (int) (lot / 65536 % 32768 % 3);
            int to = Math.floorMod(step + draw - 1, 12);
            boolean goes = draw != 1 && is(good, to);
            stops += draw != 1 && !goes ? 1 : 0;
            step = goes ? to : step;
        }
        return new int[] {step, stops};
    }

    /** To a step that is not good it does not go: a stop; a draw of none is no stop. */
    private static void lotsStop() {
        int[] goods = {4095, 0, 1, 0b110000000011, 0b101010101010, 0b000000001110, 0b111111111110, 0b011111111111};
        for (int good : goods) {
            DrawingBars bars = Checks.made(goodAt(good));
            for (int seed = -6; seed < 6; seed++) {
                for (int n : new int[] {1, 2, 7, 199, 200}) {
                    int[] due = lots(good, 0, n, seed);
                    c.same("lots " + good + " " + n + " " + seed, bars.lots(n, seed, 0), due[0]);
                    c.same("stops " + good + " " + n + " " + seed, bars.lots(n, seed, 1), due[1]);
                }
            }
            c.same("nothing stays turned", bars.now(), 0);
            bars.turn(-2);
            int from = bars.now();
            int[] due = lots(good, from, 200, 36);
            c.same("from the step as it is", bars.lots(200, 36, 0), due[0]);
            c.same("from the step as it is", bars.lots(200, 36, 1), due[1]);
            c.same("nothing stays turned", bars.now(), from);
        }
    }

    /** Without a wheel a step on or back is round to itself. */
    private static void lotsOfOneStep() {
        DrawingBars good = Checks.made("pin 0 0;");
        DrawingBars locked = Checks.made("pin 0 0;stop 1=1;");
        for (int n = 1; n <= 200; n += 19) {
            c.same("stays", good.lots(n, n, 0), 0);
            c.same("no stop", good.lots(n, n, 1), 0);
            c.same("stays", locked.lots(n, n, 0), 0);
            c.same("a stop for each but none", locked.lots(n, n, 1), lots(0, 0, n, n)[1]);
        }
    }

    /** The seed wraps within 32 bits, and of what becomes of it bits 16 to 30 are drawn. */
    private static void lotsBySeed() {
        DrawingBars bars = Checks.made("pin 70 70;wheel 0 65;");
        int[] seeds = {0, 1, -1, 2, 3, Integer.MAX_VALUE, Integer.MIN_VALUE, 1 << 16, 1 << 30, 1 << 31 | 1, 0x7fff0000, 0x0000ffff, 12345,
            -12345, 1103515245};
        for (int seed : seeds) {
            long lot = seed;
            int step = 0;
            for (int n = 1; n <= 8; n++) {
                lot = lot * 1103515245L + 12345L;
                step += (int) ((lot >> 16 & 0x7fff) % 3) - 1;
                c.same("seed " + seed + " by " + n, bars.lots(n, seed, 0), Math.floorMod(step, 36));
            }
        }
        // By hand: 0 becomes 12345, whose bits 16 to 30 are 0: a step back.
        c.same("seed 0", bars.lots(1, 0, 0), 35);
        // 1 becomes 1103527590, whose bits 16 to 30 are 16838, which leaves 2: a step on.
        c.same("seed 1", bars.lots(1, 1, 0), 1);
        // 2 becomes 2207042835 or -2087924461, whose bits 16 to 30 are 908, which leaves 2.
        c.same("seed 2", bars.lots(1, 2, 0), 1);
    }
}
