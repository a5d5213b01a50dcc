/** What the tests share: a tally of wrong answers, and texts fed as a tape. */
final class Checks {
    interface Call {
        long answer();
    }

    private int wrong;
    private int asked;

    void same(String what, long got, long due) {
        asked++;
        if (got != due) {
            wrong++;
            if (wrong <= 40) {
                System.out.println(what + " answered " + got + ", due is " + due);
            }
        }
    }

    void same(String what, boolean got, boolean due) {
        same(what, got ? 1 : 0, due ? 1 : 0);
    }

    /** The call is due to throw just this exception. */
    void thrown(String what, Class<? extends RuntimeException> due, Call call) {
        asked++;
        String got;
        try {
            got = "answer " + call.answer();
        } catch (RuntimeException e) {
            got = e.getClass().getSimpleName();
        }
        if (!got.equals(due.getSimpleName())) {
            wrong++;
            System.out.println(what + " gave " + got + ", due is " + due.getSimpleName());
        }
    }

    void noIndex(String what, Call call) {
        thrown(what, IndexOutOfBoundsException.class, call);
    }

    void noElement(String what, Call call) {
        thrown(what, java.util.NoSuchElementException.class, call);
    }

    void badArgument(String what, Call call) {
        thrown(what, IllegalArgumentException.class, call);
    }

    void badState(String what, Call call) {
        thrown(what, IllegalStateException.class, call);
    }

    boolean isClean() {
        return wrong == 0;
    }

    /** A new object reads the text as its board 0. */
    void fine(String text) {
        DrawingBars bars = new DrawingBars();
        same("'" + text + "' board", read(bars, text), 0);
        same("'" + text + "' fault", bars.fault(), -1);
    }

    /** A new object finds this fault in the text at this place, and makes no board. */
    void fault(String text, int kind, int place) {
        DrawingBars bars = new DrawingBars();
        same("'" + text + "' board", read(bars, text), kind - 10);
        same("'" + text + "' fault", bars.fault(), place);
        same("'" + text + "' boards", bars.told(4), 0);
        same("'" + text + "' taken", bars.told(5), -1);
    }

    void end() {
        System.out.println(asked + " asked, " + wrong + " wrong");
        if (wrong > 0 || asked == 0) {
            System.exit(1);
        }
    }

    static int number(byte[] bytes, int from) {
        int number = 0;
        for (int i = from; i < from + 4; i++) {
            number = number << 8 | (i < bytes.length ? bytes[i] & 255 : 0);
        }
        return number;
    }

    static byte[] bytes(String text) {
        return text.getBytes(java.nio.charset.StandardCharsets.ISO_8859_1);
    }

    /** Feeds a text, filled up by bytes 0 to whole twenties. */
    static void feed(DrawingBars bars, String text) {
        byte[] bytes = bytes(text);
        for (int i = 0; i < bytes.length; i += 20) {
            bars.feed(number(bytes, i), number(bytes, i + 4), number(bytes, i + 8),
                    number(bytes, i + 12), number(bytes, i + 16));
        }
    }

    /** Feeds a text and reads it as a board. */
    static int read(DrawingBars bars, String text) {
        feed(bars, text);
        return bars.board(text.length());
    }

    static DrawingBars made(String... texts) {
        DrawingBars bars = new DrawingBars();
        for (String text : texts) {
            int number = read(bars, text);
            if (number < 0) {
                throw new AssertionError(text + " answered " + number + " at " + bars.fault());
            }
        }
        return bars;
    }
}
