import java.util.NoSuchElementException;
import java.util.Random;

/** Calls at random, as wild as can be: nothing but what the document names is thrown, and no call of it is missing. */
public final class WildTest {
    private static final Checks checks = new Checks();
    private static final Random random = new Random(36);
    private static final int[] thrown = new int[4];

    public static void main(String[] args) {
        for (int i = 0; i < 900; i++) {
            DrawingBars bars = new DrawingBars();
            DrawingBars twin = new DrawingBars();
            // A text takes up to 32 calls, and behind 512 of them what is answered is free.
            for (int n = 0; n <= 480;) {
                long seed = random.nextLong();
                int call = random.nextInt(36);
                n += call == 2 ? 32 : 1;
                checks.same("call " + call + " on a twin", answer(twin, call, new Random(seed)), answer(bars, call, new Random(seed)));
            }
        }
        for (int i = 0; i < thrown.length; i++) {
            checks.same("exceptions " + i + " seen", thrown[i] > 0, true);
        }
        checks.end();
    }

    private static long answer(DrawingBars bars, int call, Random lot) {
        try {
            return ask(bars, call, lot);
        } catch (RuntimeException e) {
            Class<?> kind = e.getClass();
            int number = kind == IllegalArgumentException.class ? 0 : kind == NoSuchElementException.class ? 1
                    : kind == IndexOutOfBoundsException.class ? 2 : kind == IllegalStateException.class ? 3 : -1;
            checks.same("call " + call + " throws " + e, number >= 0, true);
            thrown[Math.max(0, number)]++;
            return 1_000_000_000_000L + number;
        }
    }

    private static int wild(Random lot, int usual) {
        switch (lot.nextInt(24)) {
            case 0:
                return lot.nextInt();
            case 1:
                return Integer.MIN_VALUE;
            case 2:
                return Integer.MAX_VALUE;
            case 3:
                return -1;
            default:
                return lot.nextInt(usual);
        }
    }

    private static int feedText(DrawingBars bars, Random lot) {
        String text = lot.nextInt(3) == 0 ? Boards.dense(lot) : lot.nextInt(3) == 0 ? Boards.far(lot) : new Boards(lot).text();
        if (lot.nextInt(4) == 0) {
            text = text.substring(lot.nextInt(text.length()));
        }
        bars.board(0);
        return Checks.read(bars, text);
    }

    private static long ask(DrawingBars bars, int call, Random lot) {
        int a = wild(lot, 16);
        int b = wild(lot, 16);
        int small = wild(lot, 5);
        int step = wild(lot, lot.nextBoolean() ? 36 : 1);
        switch (call) {
            case 0: return bars.feed(lot.nextInt(), wild(lot, 99), a, b, small);
            case 1: return bars.board(wild(lot, 600));
            case 2: return feedText(bars, lot);
            case 3: return bars.fault();
            case 4: return bars.take(small);
            case 5: return bars.told(wild(lot, 8));
            case 6: return bars.joint(a, wild(lot, 7));
            case 7: return bars.bar(wild(lot, 9), small);
            case 8: return bars.order(a);
            case 9: return bars.over();
            case 10: return bars.why(step, a);
            case 11: return bars.place(step, a, wild(lot, 3));
            case 12: return bars.side(step, a, wild(lot, 3), wild(lot, 11000));
            case 13: return bars.whole(step, a);
            case 14: return bars.good(step) ? 1 : 0;
            case 15: return bars.lock(step);
            case 16: return bars.first();
            case 17: return bars.holds(step, wild(lot, 9));
            case 18: return bars.cross(step, wild(lot, 9), wild(lot, 9)) ? 1 : 0;
            case 19: return bars.crossers(wild(lot, 9), wild(lot, 9));
            case 20: return bars.layers(small);
            case 21: return bars.turn(wild(lot, 120));
            case 22: return bars.now();
            case 23: return bars.run(small);
            case 24: return bars.curve(wild(lot, 6));
            case 25: return bars.jump(small);
            case 26: return bars.like(small) ? 1 : 0;
            case 27: return bars.larger(a, b, small, wild(lot, 45));
            case 28: return bars.mark(wild(lot, 2100), wild(lot, 2100));
            case 29: return lot.nextInt(20) == 0 ? bars.clear() : 0;
            case 30: return bars.far(small);
            case 31: return bars.nearest();
            case 32: return bars.lots(wild(lot, 210), lot.nextInt(), wild(lot, 3));
            case 33: return bars.image();
            case 34: return bars.restore();
            default: return bars.count(small);
        }
    }
}
