import java.util.ArrayList;
import java.util.List;

/**
 * A refused call changes nothing: of two objects that were made alike one is asked the refused call, and then both
 * answer a long row of calls alike, with those that change things among them. So it is with calls that only tell.
 */
public final class RefusedTest {
    private static final Checks c = new Checks();
    private static final int MOST = Integer.MAX_VALUE;
    private static final int LEAST = Integer.MIN_VALUE;
    private static final long OUTCOME_IS_FREE = Long.MIN_VALUE;
    private static final String CRANK = "pin 10 10;wheel 0 5;pin 20 10;arm 1 5 2 5 0;along 2 3 8;bar 1 3 5;bar 2 4 10;bar 0 1 6;"
            + "pencil 3;stop 1=2;";
    private static final String WHEEL = "pin 10 10;wheel 0 5;pencil 1;bar 0 1 5;bar 1 0 5;";
    private static final String PLAIN = "pin 3 4;";
    private static final String LOCKED = "pin 10 10;wheel 0 5;pencil 1;stop x 1>5;";

    private interface Call {
        long on(DrawingBars bars);
    }

    private interface State {
        DrawingBars made();
    }

    private record Refusal(String what, Class<? extends RuntimeException> due, long answer, Call call) {
    }

    private static final List<Refusal> refusals = new ArrayList<>();

    public static void main(String[] args) {
        every("new", DrawingBars::new, 0, 0, 0, 0);
        every("a text on the tape", RefusedTest::fed, 0, 0, 0, 40);
        every("a full tape", RefusedTest::fullTape, 0, 0, 0, 600);
        every("used", RefusedTest::used, 12, 5, 3, 40);
        every("behind a fault", RefusedTest::behindAFault, 12, 5, 3, 0);
        every("full", RefusedTest::full, 12, 2, 2, 600);
        every("no board taken", RefusedTest::released, 0, 0, 0, 20);
        every("plain", RefusedTest::plain, 1, 1, 0, 0);
        every("locked", RefusedTest::locked, 12, 2, 0, 0);
        fullOnes();
        emptyOnes();
        c.same("refusals are asked", refusals.size() > 1000, true);
        c.end();
    }

    private static DrawingBars fed() {
        DrawingBars bars = new DrawingBars();
        Checks.feed(bars, "pin 1 2;pin 3 4;bar 0 1 5;pencil 1;     ");
        return bars;
    }

    private static DrawingBars fullTape() {
        DrawingBars bars = new DrawingBars();
        Checks.feed(bars, "pin 1 2;pin 3 4;bar 0 1 5;pencil 1;" + " ".repeat(557) + "pin 5 6;");
        return bars;
    }

    private static DrawingBars used() {
        DrawingBars bars = Checks.made(WHEEL, CRANK);
        bars.mark(17, 14);
        bars.turn(2);
        bars.image();
        bars.take(0);
        bars.turn(7);
        bars.mark(-5, 9);
        bars.image();
        bars.take(1);
        bars.turn(-1);
        bars.mark(1, 1);
        Checks.feed(bars, "pin 7 8;pencil 0;stop x 0=7;            ");
        return bars;
    }

    private static DrawingBars behindAFault() {
        DrawingBars bars = Checks.made(WHEEL, CRANK);
        bars.turn(1);
        bars.mark(18, 14);
        Checks.read(bars, "pin 0 200;");
        return bars;
    }

    private static DrawingBars full() {
        DrawingBars bars = Checks.made(CRANK, PLAIN, LOCKED, WHEEL);
        for (int i = 0; i < 36; i++) {
            bars.mark(i, 10 - i);
            if (i % 12 == 11) {
                bars.image();
                bars.turn(1);
            }
        }
        Checks.feed(bars, "pin 1 2;" + " ".repeat(592));
        return bars;
    }

    private static DrawingBars released() {
        DrawingBars bars = new DrawingBars();
        bars.mark(1, 2);
        bars.image();
        Checks.read(bars, WHEEL);
        Checks.read(bars, PLAIN);
        bars.mark(3, 4);
        bars.restore();
        Checks.feed(bars, "pin 1 2;pin 3 4;");
        return bars;
    }

    private static DrawingBars plain() {
        return Checks.made(PLAIN);
    }

    private static DrawingBars locked() {
        DrawingBars bars = Checks.made(LOCKED);
        bars.image();
        return bars;
    }

    private static void refused(String what, Class<? extends RuntimeException> due, Call call) {
        refusals.add(new Refusal(what, due, 0, call));
    }

    private static void illegal(String what, Call call) {
        refused(what, IllegalArgumentException.class, call);
    }

    private static void missing(String what, Call call) {
        refused(what, java.util.NoSuchElementException.class, call);
    }

    private static void noStep(String what, Call call) {
        refused(what, IndexOutOfBoundsException.class, call);
    }

    private static void noState(String what, Call call) {
        refused(what, IllegalStateException.class, call);
    }

    private static void answered(String what, long answer, Call call) {
        refusals.add(new Refusal(what, null, answer, call));
    }

    private static long number(boolean answer) {
        return answer ? 1 : 0;
    }

    /** All that a state refuses, by its steps, joints, bars and the bytes of its tape. */
    private static void every(String name, State state, int steps, int joints, int bars, int bytes) {
        int from = refusals.size();
        alwaysRefused(bytes);
        withoutSteps(steps);
        if (steps > 0) {
            withoutJoints(joints);
            withoutBars(bars);
            wrongWhat(bars);
        } else {
            withoutBoard();
        }
        for (Refusal refusal : refusals.subList(from, refusals.size())) {
            unchanged(name, state, refusal);
        }
        for (Refusal telling : tellings()) {
            unchanged(name, state, telling);
        }
    }

    private static void alwaysRefused(int bytes) {
        for (int n : new int[] {-1, LEAST, bytes + 1, 601, MOST}) {
            illegal("board " + n, bars -> bars.board(n));
        }
        for (int board : new int[] {-1, 4, LEAST, MOST}) {
            missing("take " + board, bars -> bars.take(board));
            missing("far " + board, bars -> bars.far(board));
        }
        for (int what : new int[] {-1, 7, LEAST, MOST}) {
            illegal("told " + what, bars -> bars.told(what));
            illegal("run " + what, bars -> bars.run(what));
            illegal("layers " + what, bars -> bars.layers(what));
            illegal("curve " + what, bars -> bars.curve(what));
            illegal("jump " + what, bars -> bars.jump(what));
            illegal("like " + what, bars -> number(bars.like(what)));
            illegal("lots what " + what, bars -> bars.lots(5, 5, what));
            answered("count " + what, -1, bars -> bars.count(what));
        }
        for (int n : new int[] {-101, 101, LEAST, MOST}) {
            illegal("turn " + n, bars -> bars.turn(n));
            illegal("lots " + n, bars -> bars.lots(n == 101 ? 201 : n == -101 ? 0 : n, 5, 0));
        }
        for (int edge : new int[] {-2001, 2001, LEAST, MOST}) {
            illegal("mark x " + edge, bars -> bars.mark(edge, 0));
            illegal("mark y " + edge, bars -> bars.mark(0, edge));
        }
    }

    private static void withoutSteps(int steps) {
        for (int step : new int[] {-1, steps, LEAST, MOST}) {
            noStep("why " + step, bars -> bars.why(step, 0));
            noStep("place " + step, bars -> bars.place(step, 0, 9));
            noStep("side " + step, bars -> bars.side(step, 99, 0, 0));
            noStep("whole " + step, bars -> bars.whole(step, 0));
            noStep("good " + step, bars -> number(bars.good(step)));
            noStep("lock " + step, bars -> bars.lock(step));
            noStep("holds " + step, bars -> bars.holds(step, 0));
            noStep("cross " + step, bars -> number(bars.cross(step, 0, 0)));
        }
    }

    private static void withoutJoints(int joints) {
        for (int j : new int[] {-1, joints, LEAST, MOST}) {
            missing("joint " + j, bars -> bars.joint(j, 9));
            missing("why " + j, bars -> bars.why(0, j));
            missing("place " + j, bars -> bars.place(0, j, 9));
            missing("side " + j, bars -> bars.side(0, j, 0, 10000));
            missing("whole " + j, bars -> bars.whole(0, j));
            missing("larger " + j, bars -> bars.larger(j, 0, 0, 41));
            missing("larger of " + j, bars -> bars.larger(0, j, 0, 4));
            missing("larger from " + j, bars -> bars.larger(0, 0, j, 4));
        }
    }

    private static void withoutBars(int many) {
        for (int bar : new int[] {-1, many, LEAST, MOST}) {
            missing("bar " + bar, bars -> bars.bar(bar, 9));
            missing("holds " + bar, bars -> bars.holds(0, bar));
            missing("cross " + bar, bars -> number(bars.cross(0, bar, 0)));
            missing("cross with " + bar, bars -> number(bars.cross(0, 0, bar)));
            missing("crossers " + bar, bars -> bars.crossers(bar, bar));
            missing("crossers with " + bar, bars -> bars.crossers(0, bar));
        }
    }

    private static void wrongWhat(int many) {
        for (int what : new int[] {-1, 6, LEAST, MOST}) {
            illegal("joint's " + what, bars -> bars.joint(0, what));
            illegal("place's " + what, bars -> bars.place(0, 0, what));
            illegal("side's " + what, bars -> bars.side(0, 0, what, 0));
        }
        for (int v : new int[] {-10000, 10000, LEAST, MOST}) {
            illegal("side by " + v, bars -> bars.side(0, 0, 0, v));
        }
        for (int m : new int[] {-41, 41, LEAST, MOST}) {
            illegal("larger by " + m, bars -> bars.larger(0, 0, 0, m));
        }
        if (many > 0) {
            illegal("bar's 3", bars -> bars.bar(0, 3));
            illegal("bar's -1", bars -> bars.bar(0, -1));
            illegal("cross of one", bars -> number(bars.cross(0, 1, 1)));
            illegal("crossers of one", bars -> bars.crossers(1, 1));
            illegal("larger from a wheel", bars -> bars.larger(0, 0, 1, 4));
        }
    }

    private static void withoutBoard() {
        noState("turn", bars -> bars.turn(1));
        noState("lots", bars -> bars.lots(1, 1, 0));
        noState("curve", bars -> bars.curve(0));
        noState("jump", bars -> bars.jump(0));
        noState("like", bars -> number(bars.like(0)));
        missing("joint", bars -> bars.joint(0, 0));
        missing("bar", bars -> bars.bar(0, 0));
        missing("crossers", bars -> bars.crossers(0, 1));
        missing("larger", bars -> bars.larger(0, 0, 0, 4));
    }

    /** Calls that only tell, whatever it is. */
    private static List<Refusal> tellings() {
        List<Refusal> all = new ArrayList<>();
        Call[] calls = {bars -> bars.fault(), bars -> bars.told(4), bars -> bars.joint(0, 1), bars -> bars.bar(0, 2), bars -> bars.order(0),
            bars -> bars.over(), bars -> bars.why(0, 0), bars -> bars.place(0, 0, 0), bars -> bars.side(0, 0, 0, 0), bars -> bars.whole(0, 0),
            bars -> number(bars.good(0)), bars -> bars.lock(0), bars -> bars.first(), bars -> bars.holds(0, 0),
            bars -> number(bars.cross(0, 0, 1)), bars -> bars.crossers(0, 1), bars -> bars.layers(0), bars -> bars.layers(1),
            bars -> bars.layers(2), bars -> bars.now(), bars -> bars.run(0), bars -> bars.run(1), bars -> bars.curve(0),
            bars -> bars.jump(0), bars -> number(bars.like(0)), bars -> bars.larger(0, 0, 0, 4), bars -> bars.far(0),
            bars -> bars.nearest(), bars -> bars.lots(200, 7, 0), bars -> bars.lots(33, -7, 1), bars -> bars.count(0),
            bars -> bars.count(1), bars -> bars.count(2)};
        for (int i = 0; i < calls.length; i++) {
            all.add(new Refusal("telling " + i, null, OUTCOME_IS_FREE, calls[i]));
        }
        return all;
    }

    private static void unchanged(String name, State state, Refusal refusal) {
        DrawingBars asked = state.made();
        DrawingBars spared = state.made();
        String what = name + ": " + refusal.what();
        if (refusal.due() != null) {
            c.thrown(what, refusal.due(), () -> refusal.call().on(asked));
        } else if (refusal.answer() == OUTCOME_IS_FREE) {
            outcome(asked, refusal.call());
        } else {
            c.same(what, outcome(asked, refusal.call()), refusal.answer());
        }
        alike(what, asked, spared);
    }

    private static void alike(String what, DrawingBars asked, DrawingBars spared) {
        List<Long> left = new ArrayList<>();
        List<Long> right = new ArrayList<>();
        probe(asked, left);
        probe(spared, right);
        for (int i = 0; i < left.size(); i++) {
            c.same(what + ", then answer " + i, left.get(i), right.get(i));
        }
    }

    private static long outcome(DrawingBars bars, Call call) {
        try {
            return call.on(bars);
        } catch (IllegalArgumentException e) {
            return 1L << 40;
        } catch (IllegalStateException e) {
            return 2L << 40;
        } catch (java.util.NoSuchElementException e) {
            return 3L << 40;
        } catch (IndexOutOfBoundsException e) {
            return 4L << 40;
        }
    }

    /** Some 250 calls; what changes things comes behind what only tells. */
    private static void probe(DrawingBars bars, List<Long> answers) {
        probeTaken(bars, answers);
        Call[] changes = {b -> b.turn(2), b -> b.now(), b -> b.turn(-5), b -> b.now(), b -> b.mark(7, 7), b -> b.far(0), b -> b.far(1),
            b -> b.board(b.count(2)), b -> b.fault(), b -> b.told(0), b -> b.told(4), b -> b.told(5), b -> b.joint(0, 1), b -> b.joint(1, 2),
            b -> b.feed(0x70696e20, 0x31203132, 0x3b70656e, 0x63696c20, 0x303b2020), b -> b.board(20), b -> b.fault(),
            b -> b.told(4), b -> b.told(6), b -> b.take(0)};
        for (Call change : changes) {
            answers.add(outcome(bars, change));
        }
        for (int i = 0; i < 4; i++) {
            answers.add(outcome(bars, b -> b.restore()));
            answers.add(outcome(bars, b -> b.told(5)));
            answers.add(outcome(bars, b -> b.now()));
            answers.add(outcome(bars, b -> b.count(0)));
            answers.add(outcome(bars, b -> b.far(0)));
            answers.add(outcome(bars, b -> b.far(3)));
        }
        probeTaken(bars, answers);
        for (int i = 0; i < 4; i++) {
            answers.add(outcome(bars, b -> b.image()));
        }
        answers.add(outcome(bars, b -> b.clear()));
        answers.add(outcome(bars, b -> b.mark(0, 0)));
        answers.add(outcome(bars, b -> b.far(0)));
        probeTaken(bars, answers);
    }

    private static void probeTaken(DrawingBars bars, List<Long> answers) {
        for (int what = 0; what < 7; what++) {
            int which = what;
            answers.add(outcome(bars, b -> b.told(which)));
        }
        for (int what = 0; what < 5; what++) {
            int which = what;
            answers.add(outcome(bars, b -> b.curve(which)));
            answers.add(outcome(bars, b -> b.joint(which, 1)));
            answers.add(outcome(bars, b -> b.order(which)));
            answers.add(outcome(bars, b -> b.lock(which)));
            answers.add(outcome(bars, b -> b.place(which, which / 2, which % 2)));
            answers.add(outcome(bars, b -> b.far(which)));
        }
        for (int what = 0; what < 3; what++) {
            int which = what;
            answers.add(outcome(bars, b -> b.layers(which)));
            answers.add(outcome(bars, b -> number(b.like(which))));
            answers.add(outcome(bars, b -> b.bar(0, which)));
            answers.add(outcome(bars, b -> b.count(which)));
        }
        for (int what = 0; what < 2; what++) {
            int which = what;
            answers.add(outcome(bars, b -> b.run(which)));
            answers.add(outcome(bars, b -> b.jump(which)));
            answers.add(outcome(bars, b -> b.lots(50, 9, which)));
        }
        Call[] rest = {b -> b.fault(), b -> b.now(), b -> b.first(), b -> b.over(), b -> b.nearest(), b -> b.holds(0, 0), b -> b.crossers(0, 1),
            b -> b.larger(0, 0, 0, 4)};
        for (Call call : rest) {
            answers.add(outcome(bars, call));
        }
    }

    /** What is full takes no more: the tape, the row, the images, the boards. */
    private static void fullOnes() {
        State fullTape = RefusedTest::fullTape;
        unchanged("a full tape", fullTape, new Refusal("feed", null, -1, b -> b.feed(-1, -1, -1, -1, -1)));
        State full = RefusedTest::full;
        unchanged("full", full, new Refusal("feed", null, -1, b -> b.feed(0x70696e20, 0x30203030, 0x3b000000, 0, 0)));
        unchanged("full", full, new Refusal("mark", null, -1, b -> b.mark(9, 9)));
        unchanged("full", full, new Refusal("image", null, -1, b -> b.image()));
        State emptied = () -> {
            DrawingBars bars = full();
            bars.board(0);
            return bars;
        };
        unchanged("full of boards", emptied, new Refusal("a fifth", null, -1, b -> b.board(0)));
        State fed = () -> {
            DrawingBars bars = full();
            bars.board(0);
            Checks.feed(bars, WHEEL);
            return bars;
        };
        DrawingBars asked = fed.made();
        c.same("a fifth", asked.board(WHEEL.length()), -1);
        alike("full: a fifth", asked, emptied.made());
    }

    /** What is empty gives nothing: images, the row, a wheel that is locked; and a text with a fault gives no board. */
    private static void emptyOnes() {
        State plain = RefusedTest::plain;
        unchanged("plain", plain, new Refusal("restore", null, -1, b -> b.restore()));
        unchanged("plain", plain, new Refusal("clear", null, 0, b -> b.clear()));
        unchanged("new", DrawingBars::new, new Refusal("restore", null, -1, b -> b.restore()));
        unchanged("behind a fault", RefusedTest::behindAFault, new Refusal("restore", null, -1, b -> b.restore()));
        unchanged("locked", RefusedTest::locked, new Refusal("turn", null, 0, b -> b.turn(9)));
        unchanged("locked", RefusedTest::locked, new Refusal("turn back", null, 0, b -> b.turn(-9)));
        unchanged("used", RefusedTest::used, new Refusal("turn by none", null, 0, b -> b.turn(0)));
        String[] faulty = {"", "pin 0 0", "pin 0 900;", "wheel 0 65;wheel 0 5;", "pin 0 0;bar 0 1 5;stop 1=1;pencil 0;"};
        for (String text : faulty) {
            for (State state : new State[] {DrawingBars::new, RefusedTest::plain, RefusedTest::locked, RefusedTest::behindAFault}) {
                DrawingBars asked = state.made();
                DrawingBars spared = state.made();
                c.same("'" + text + "'", Checks.read(asked, text) < -1, true);
                // Both have the same latest fault then.
                Checks.read(asked, "pin");
                Checks.read(spared, "pin");
                alike("a fault in '" + text + "'", asked, spared);
            }
        }
    }
}
