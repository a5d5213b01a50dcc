import java.util.ArrayList;
import java.util.List;
import java.util.Random;

/** All answers about many made-up boards, and the faults of many spoilt texts, against the oracle. */
public final class OracleTest {
    private static final Checks checks = new Checks();
    private static final Random random = new Random(20261118);
    private static final int[] seenWhy = new int[6];
    private static final int[] seenHolds = new int[3];
    private static final int[] seenLarger = new int[3];
    private static final int[] seenFaults = new int[5];
    private static int seenCrossings;
    private static int seenStops;
    private static int seenGood;
    private static int seenLayers;
    private static int seenLike;

    public static void main(String[] args) {
        int rounds = args.length > 1 ? Integer.parseInt(args[1]) : 1500;
        for (int i = 0; i < rounds; i++) {
            String text = i % 5 == 3 ? Boards.dense(random) : i % 5 == 4 ? Boards.far(random) : new Boards(random).text();
            Oracle oracle = new Oracle(text);
            checks.same(text, Checks.read(new DrawingBars(), text), oracle.faultKind == 0 ? 0 : oracle.faultKind - 10);
            if (oracle.faultKind == 0) {
                compare(text, oracle);
            }
        }
        for (int i = 0; i < rounds * 20; i++) {
            compareFault(spoil(new Boards(random).text()));
        }
        System.out.printf("seen: why %s, holds %s, larger %s, faults %s, crossings %d, stops %d, good %d, layers %d, like %d%n",
                java.util.Arrays.toString(seenWhy), java.util.Arrays.toString(seenHolds),
                java.util.Arrays.toString(seenLarger), java.util.Arrays.toString(seenFaults),
                seenCrossings, seenStops, seenGood, seenLayers, seenLike);
        checks.end();
    }

    private static void compareFault(String text) {
        Oracle oracle = new Oracle(text);
        DrawingBars bars = new DrawingBars();
        seenFaults[oracle.faultKind]++;
        checks.same("'" + text + "' board", Checks.read(bars, text), oracle.faultKind == 0 ? 0 : oracle.faultKind - 10);
        checks.same("'" + text + "' fault", bars.fault(), oracle.faultPlace);
    }

    private static String spoil(String text) {
        String signs = " ;()[]<>=+-0123456789xyabnotrdpiwhel,Z";
        StringBuilder spoilt = new StringBuilder(text);
        int times = 1 + random.nextInt(2);
        for (int i = 0; i < times; i++) {
            int at = random.nextInt(spoilt.length());
            char sign = signs.charAt(random.nextInt(signs.length()));
            switch (random.nextInt(6)) {
                case 0 -> spoilt.setCharAt(at, sign);
                case 1 -> spoilt.insert(at, sign);
                case 2 -> spoilt.deleteCharAt(at);
                case 3 -> {
                    int end = Math.min(spoilt.length(), at + random.nextInt(20));
                    spoilt.insert(random.nextInt(spoilt.length()), spoilt.substring(at, end));
                }
                case 4 -> {
                    int clause = spoilt.indexOf(";", at);
                    int end = clause < 0 ? -1 : spoilt.indexOf(";", clause + 1);
                    if (end > 0) {
                        spoilt.insert(clause + 1, spoilt.substring(clause + 1, end + 1).repeat(1 + random.nextInt(9)));
                    }
                }
                default -> spoilt.setLength(Math.max(1, at));
            }
        }
        spoilt.setLength(Math.min(spoilt.length(), 600));
        return spoilt.toString();
    }

    /** Each part asks an object of its own: behind 512 calls what it answers is free. */
    private static void compare(String text, Oracle oracle) {
        compareTold(text, Checks.made(text), oracle);
        for (int s = 0; s < oracle.steps; s++) {
            compareStep(text + " at " + s + ": ", Checks.made(text), oracle, s);
        }
        compareWays(text, Checks.made(text), oracle);
        compareBars(text, Checks.made(text), oracle);
        comparePencil(text, Checks.made(text), oracle);
    }

    private static void compareTold(String text, DrawingBars bars, Oracle oracle) {
        int joints = oracle.joints.size();
        checks.same(text + " told(0)", bars.told(0), joints);
        checks.same(text + " told(1)", bars.told(1), oracle.bars.size());
        checks.same(text + " told(2)", bars.told(2), oracle.stops.size());
        checks.same(text + " told(3)", bars.told(3), oracle.steps);
        checks.same(text + " told(6)", bars.told(6), oracle.pencil);
        checks.same(text + " over()", bars.over(), oracle.over);
        for (int i = 0; i <= joints; i++) {
            checks.same(text + " order(" + i + ")", bars.order(i), i < oracle.order.size() ? oracle.order.get(i) : -1);
        }
        for (int j = 0; j < joints; j++) {
            int[] numbers = oracle.joints.get(j);
            for (int what = 0; what <= 5; what++) {
                checks.same(text + " joint " + j + " " + what, bars.joint(j, what),
                        what < numbers.length ? numbers[what] : -1);
            }
        }
    }

    private static void compareStep(String text, DrawingBars bars, Oracle oracle, int s) {
        for (int j = 0; j < oracle.joints.size(); j++) {
            int why = oracle.why[s][j];
            seenWhy[why]++;
            checks.same(text + "why " + j, bars.why(s, j), why);
            checks.same(text + "whole " + j, bars.whole(s, j), why != 0 ? -1 : oracle.isWhole(s, j) ? 1 : 0);
            for (int what = 0; what < 2; what++) {
                int drawn = why != 0 ? DrawingBars.VOID : oracle.drawn(s, j, what);
                checks.same(text + "place " + j + " " + what, bars.place(s, j, what), drawn);
                for (int v = -1; v <= 2; v++) {
                    int number = why != 0 ? v : drawn + v;
                    checks.same(text + "side " + j + " " + what + " " + number, bars.side(s, j, what, number),
                            oracle.side(s, j, what, number));
                }
                checks.same(text + "side -9999", bars.side(s, j, what, -9999), oracle.side(s, j, what, -9999));
                checks.same(text + "side 9999", bars.side(s, j, what, 9999), oracle.side(s, j, what, 9999));
            }
        }
        seenStops += oracle.locks[s] >= 1000 ? 1 : 0;
        seenGood += oracle.good(s) ? 1 : 0;
        checks.same(text + "lock", bars.lock(s), oracle.locks[s]);
        checks.same(text + "good", bars.good(s), oracle.good(s));
        for (int bar = 0; bar < oracle.bars.size(); bar++) {
            int holds = oracle.holds(s, bar);
            seenHolds[holds + 1]++;
            checks.same(text + "holds " + bar, bars.holds(s, bar), holds);
            for (int other = 0; other < oracle.bars.size(); other++) {
                if (bar != other) {
                    boolean cross = oracle.cross(s, bar, other);
                    seenCrossings += cross ? 1 : 0;
                    checks.same(text + "cross " + bar + " " + other, bars.cross(s, bar, other), cross);
                }
            }
        }
    }

    private static void compareWays(String text, DrawingBars bars, Oracle oracle) {
        int first = -1;
        for (int s = oracle.steps - 1; s >= 0; s--) {
            first = oracle.good(s) ? first : s;
        }
        checks.same(text + " first", bars.first(), first);
        int[] run = oracle.run();
        checks.same(text + " run(0)", bars.run(0), run[0]);
        checks.same(text + " run(1)", bars.run(1), run[1]);
        int step = 0;
        for (int i = 0; i < 6; i++) {
            int n = random.nextInt(201) - 100;
            n = i < 4 ? n / 10 : n;
            int went = 0;
            int to = (step + Integer.signum(n) + oracle.steps) % oracle.steps;
            while (went < Math.abs(n) && oracle.good(to)) {
                step = to;
                to = (step + Integer.signum(n) + oracle.steps) % oracle.steps;
                went++;
            }
            checks.same(text + " turn(" + n + ")", bars.turn(n), went);
            checks.same(text + " now()", bars.now(), step);
            int many = 1 + random.nextInt(200);
            int seed = random.nextInt();
            int[] lots = oracle.lots(step, many, seed);
            checks.same(text + " lots(" + many + ", " + seed + ", 0)", bars.lots(many, seed, 0), lots[0]);
            checks.same(text + " lots(" + many + ", " + seed + ", 1)", bars.lots(many, seed, 1), lots[1]);
            checks.same(text + " now() behind lots", bars.now(), step);
        }
    }

    private static void compareBars(String text, DrawingBars bars, Oracle oracle) {
        for (int bar = 0; bar < oracle.bars.size(); bar++) {
            for (int what = 0; what < 3; what++) {
                checks.same(text + " bar " + bar, bars.bar(bar, what), oracle.bars.get(bar)[what]);
            }
            for (int other = 0; other < oracle.bars.size(); other++) {
                if (bar != other) {
                    checks.same(text + " crossers", bars.crossers(bar, other), oracle.crossers(bar, other));
                }
            }
        }
        int[] layers = oracle.layers();
        seenLayers += layers[0] > 2 ? 1 : 0;
        for (int what = 0; what < 3; what++) {
            checks.same(text + " layers(" + what + ")", bars.layers(what), layers[what]);
        }
    }

    private static void comparePencil(String text, DrawingBars bars, Oracle oracle) {
        int joints = oracle.joints.size();
        for (int i = 0; i < 60; i++) {
            int joint = random.nextInt(joints);
            int other = random.nextInt(joints);
            int pin = random.nextInt(joints);
            int m = i % 2 == 0 ? random.nextInt(81) - 40 : random.nextInt(17);
            if (oracle.joints.get(joint)[0] == 5 && random.nextInt(3) > 0) {
                pin = oracle.joints.get(joint)[1];
                other = oracle.joints.get(joint)[2];
                m = oracle.joints.get(joint)[3];
            }
            if (oracle.joints.get(pin)[0] != 0) {
                continue;
            }
            int larger = oracle.larger(joint, other, pin, m);
            seenLarger[larger + 1]++;
            checks.same(text + " larger(" + joint + ", " + other + ", " + pin + ", " + m + ")",
                    bars.larger(joint, other, pin, m), larger);
        }
        List<int[]> row = new ArrayList<>();
        int points = random.nextInt(37);
        for (int i = 0; i < points; i++) {
            row.add(new int[] {random.nextInt(4001) - 2000, random.nextInt(4001) - 2000});
            checks.same(text + " mark", bars.mark(row.get(i)[0], row.get(i)[1]), i + 1);
        }
        checks.same(text + " far(0)", bars.far(0), oracle.far(row));
        if (oracle.pencil < 0) {
            return;
        }
        int[] curve = oracle.curve();
        for (int what = 0; what < 5; what++) {
            checks.same(text + " curve(" + what + ")", bars.curve(what), curve[what]);
        }
        int[] jump = oracle.jump();
        checks.same(text + " jump(0)", bars.jump(0), jump[0]);
        checks.same(text + " jump(1)", bars.jump(1), jump[1]);
        for (int what = 0; what < 3; what++) {
            seenLike += oracle.like(what) && curve[0] > 1 ? 1 : 0;
            checks.same(text + " like(" + what + ")", bars.like(what), oracle.like(what));
        }
    }
}
