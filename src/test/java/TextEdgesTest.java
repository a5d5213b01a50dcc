import java.math.BigInteger;
import java.util.ArrayList;
import java.util.List;

/** The edges of a board's text: its length, clauses, numbers, words, blanks, what is open, and where which fault is. */
public final class TextEdgesTest {
    private static final Checks c = new Checks();
    private static final int NONE = DrawingBars.NONE;
    private static final String PIN = "pin0 0;";
    /** With one clause more that tells a joint, 0 to 15 are told. */
    private static final String FIFTEEN = PIN.repeat(15);
    private static final String SIXTEEN = PIN.repeat(16);
    private static final String STOP = "pin 0 0;stop ";
    private static final String WHOLE_FACE = "pin 12 3;wheel 0 5;arm 0 9 1 8 1;slot 0 9 1 7 1;copy 0 1 2;along 0 1 3;"
            + "bar 0 1 9;pencil 2;stop not [x 0+1-(y 1)<3 and 2=2] or 1>0;";
    /** Each place at which a joint is named, in a clause that tells a joint and in one that tells none. */
    private static final String[] NAMED_BY_JOINTS = {"wheel # 5;", "arm # 1 0 1 0;", "arm 0 1 # 1 0;", "slot # 1 0 1 0;",
        "copy # 0 0;", "copy 0 # 0;", "copy 0 0 #;", "along # 0 1;", "along 0 # 1;"};
    private static final String[] NAMED_BY_OTHERS = {"bar # 0 1;", "bar 0 # 1;", "pencil #;", "stop x #=1;", "stop y #=1;",
        "stop 1=1 or 2<x #;", "stop not [1-(y #)>1];"};

    public static void main(String[] args) {
        tapeIsFull();
        firstBytesOfTheTape();
        bytesBehindTheText();
        highestByteFirst();
        everyByte();
        longestText();
        tooManyOfEach();
        numbersOfJoints();
        numbersOfTheRest();
        radii();
        twoUnlikeJoints();
        words();
        blanks();
        textsThatEndEarly();
        firstFromTheLeft();
        leastOfOnePlace();
        sixOpen();
        openRightOfTheSign();
        openUntilItEnds();
        namedAndNotTold();
        namedAheadOfOthers();
        noJoint();
        latestText();
        c.end();
    }

    /** Promise 2: NONE, doing nothing, if there would be more than 600. */
    private static void tapeIsFull() {
        DrawingBars bars = new DrawingBars();
        Checks.feed(bars, "pin 1 2;pin 3 4;" + " ".repeat(564));
        c.same("580 bytes", bars.count(2), 580);
        c.same("the last twenty", bars.feed(0x20202020, 0x20202020, 0x2070696e, 0x20352036, 0x3b202020), 600);
        c.same("more than 600", bars.feed(-1, -1, -1, -1, -1), NONE);
        c.same("and again", bars.feed(0, 0, 0, 0, 0), NONE);
        c.same("bytes stay", bars.count(2), 600);
        c.same("what was fed stays", bars.board(600), 0);
        c.same("its last pin", bars.joint(2, 2), 6);
        c.same("its first pin", bars.joint(0, 1), 1);
        c.same("the tape is empty then", bars.count(2), 0);
        c.same("and takes twenty again", bars.feed(0, 0, 0, 0, 0), 20);
    }

    /** Promise 3: the first n bytes, n from 0 to the tape's bytes; then the tape is empty. */
    private static void firstBytesOfTheTape() {
        DrawingBars empty = new DrawingBars();
        c.badArgument("board(1) of no bytes", () -> empty.board(1));
        c.badArgument("board(-1) of no bytes", () -> empty.board(-1));
        c.same("board(0) of no bytes", empty.board(0), -6);
        c.same("its fault", empty.fault(), 0);
        String text = "pin 1 2;pin 3 4;pin 5 6;pin 7 8;pin 9 1;";
        for (int n = 0; n <= 40; n++) {
            DrawingBars bars = new DrawingBars();
            Checks.feed(bars, text);
            c.same("board(" + n + ")", bars.board(n), n == 0 ? -6 : n % 8 == 0 ? 0 : -9);
            c.same("joints of " + n, bars.told(0), n % 8 == 0 ? n / 8 : 0);
            c.same("the tape behind " + n, bars.count(2), 0);
            boolean cutWord = n % 8 == 1 || n % 8 == 2;
            c.same("fault of " + n, bars.fault(), n == 0 ? 0 : n % 8 == 0 ? NONE : cutWord ? n - n % 8 : n);
        }
        DrawingBars bars = new DrawingBars();
        Checks.feed(bars, text);
        for (int n : new int[] {41, 60, 600, 601, Integer.MAX_VALUE, -1, -40, Integer.MIN_VALUE}) {
            c.badArgument("board(" + n + ") of 40 bytes", () -> bars.board(n));
            c.same("it stays", bars.count(2), 40);
        }
        c.same("all of it still stands there", bars.board(40), 0);
        c.same("all its joints", bars.told(0), 5);
        c.same("the last one", bars.joint(4, 1), 9);
    }

    /** What stands on the tape behind the n bytes is not of the text, be it of this one or of an earlier one. */
    private static void bytesBehindTheText() {
        String[] texts = {"pin|s 0 0;", "pin 0 19|9;", "pin 0 20|0;", "pin 0 0|;", "pin 0 0;pin|pin 0 0;", "pin 0 0;stop 1=1 or|d 1=1;",
            "pin 0 0;stop x|x 0=1;", "pin 0 0;stop not|e 0=1;", "pin 0 0;stop [1=1|];", "pin 0 0;stop 1|0=1;"};
        for (String text : texts) {
            int n = text.indexOf('|');
            DrawingBars cut = new DrawingBars();
            Checks.feed(cut, text.replace("|", ""));
            c.same("cut " + text, cut.board(n), -9);
            c.same("at its length " + text, cut.fault(), n);
        }
        DrawingBars earlier = new DrawingBars();
        Checks.feed(earlier, "z9".repeat(300));
        c.same("a long text", earlier.board(600), -9);
        String[] ends = {"            pin 1 19", "                 pin", "  pin 0 0;stop 1=1 or", "pin 0 0;stop not x 0", "pin 0 0;stop 1=1;pin"};
        for (String end : ends) {
            String text = end.substring(end.length() - 20);
            c.same("ahead of old bytes '" + text + "'", Checks.read(earlier, text), -9);
            c.same("at its length", earlier.fault(), 20);
        }
        c.same("sound ahead of old bytes", Checks.read(earlier, "            pin 1 1;"), 0);
        c.same("one named by a digit at the end", Checks.read(earlier, "pin 0 0;   pencil 1;"), -6);
    }

    /** Promise 2: of each number the highest byte first. */
    private static void highestByteFirst() {
        for (int i = 0; i < 60; i++) {
            StringBuilder text = new StringBuilder(" ".repeat(60));
            text.setCharAt(i, 'x');
            c.fault(text.toString(), 1, i);
        }
        DrawingBars bars = new DrawingBars();
        c.same("feed", bars.feed(0x70696e20, 0x31322033, 0x343b7069, 0x6e203536, 0x2037383b), 20);
        c.same("board", bars.board(20), 0);
        int[] due = {12, 34, 56, 78};
        for (int i = 0; i < 4; i++) {
            c.same("number " + i, bars.joint(i / 2, 1 + i % 2), due[i]);
        }
    }

    /** Blanks are bytes 32, digits 48 to 57; the rest of 0 to 255 can't stand there. */
    private static void everyByte() {
        for (int value = 0; value < 256; value++) {
            char sign = (char) value;
            if (value == ' ') {
                c.fine(sign + "pin 0 0;" + sign);
                c.fault("pin 0 " + sign + ";", 1, 7);
                continue;
            }
            c.fault("pin 0 0;" + sign, 1, 8);
            boolean digit = value >= '0' && value <= '9';
            if (digit) {
                c.fine("pin 0 " + sign + ";");
                c.fine("pin 1 1" + sign + ";");
            } else {
                c.fault("pin 0 " + sign + ";", 1, 6);
                c.fault("pin 0 0" + sign + (value == ';' ? "x" : ";"), 1, value == ';' ? 8 : 7);
            }
        }
    }

    /** A text of up to 600 bytes. */
    private static void longestText() {
        c.fine("pin 0 0;" + " ".repeat(592));
        c.fine(" ".repeat(592) + "pin 0 0;");
        c.fine("pin " + "0".repeat(590) + "199 7;");
        c.fine("pin 7 " + "0".repeat(590) + "199;");
        c.fault("pin 7 " + "0".repeat(590) + "200;", 2, 6);
        c.fault(" ".repeat(592) + "pin 0 0", 1, 599);
        c.fault(" ".repeat(593) + "pin 0 0", 1, 600);
        c.fault("pin 0 0;" + " ".repeat(591) + "x", 1, 599);
        c.fault(" ".repeat(600), 4, 600);
        c.fault(" ".repeat(591) + "pencil 0;", 4, 600);
        String last = "x 0=0;";
        String long600 = STOP + "1=2 or ".repeat(83) + last;
        c.same("its length", long600.length(), 600);
        c.same("the last of 600 bytes counts", Checks.made(long600).lock(0), 1000);
        c.same("the last of 600 bytes counts", Checks.made(long600.replace("0=0;", "0=1;")).lock(0), NONE);
        String sum = STOP + "0" + "+1".repeat(290) + "=290;";
        c.same("its length", sum.length() <= 600 && sum.length() > 595, true);
        c.same("a sum of 291 numbers", Checks.made(sum).lock(0), 1000);
        c.same("a sum of 291 numbers", Checks.made(sum.replace("=290", "=289")).lock(0), NONE);
    }

    /** Joints, 16 at most; one wheel; 8 bars; 4 stops; a pencil once: the next one at its word. */
    private static void tooManyOfEach() {
        String[] joints = {"pin 0 0;", "wheel 0 5;", "arm 0 1 1 1 0;", "slot 0 1 0 1 0;", "copy 0 0 0;", "along 0 1 1;"};
        for (String clause : joints) {
            c.fine(FIFTEEN + clause);
            c.fault(SIXTEEN + clause, 3, SIXTEEN.length());
            c.fault(SIXTEEN + "   " + clause, 3, SIXTEEN.length() + 3);
        }
        c.same("sixteen", Checks.made(SIXTEEN).told(0), 16);
        c.fault("wheel 1 5;pin 0 0;wheel", 3, 18);
        c.fault(PIN.repeat(14) + "wheel 0 5;wheel 0 25;", 3, 14 * 7 + 10);
        String bars = "pin 0 0;pin 1 1;" + "bar 0 1 1;".repeat(8);
        c.same("eight bars", Checks.made(bars).told(1), 8);
        c.fault(bars + "bar 0 1 1;", 3, bars.length());
        c.fault(bars + "pin 0 0; bar;", 3, bars.length() + 9);
        String stops = "pin 0 0;" + "stop 1=2;".repeat(4);
        c.same("four stops", Checks.made(stops).told(2), 4);
        c.fault(stops + "stop 1=2;", 3, stops.length());
        c.same("a pencil", Checks.made("pin 0 0;pencil 0;").told(6), 0);
        c.fault("pin 0 0;pencil 0;pencil 0;", 3, 17);
        c.fault("pencil 1;pin 0 0;pin 0 0;pencil 1;", 3, 25);
        clausesTooMany();
    }

    /** No more than 29 clauses have room under the other bounds, so a 61st is never the first fault. */
    private static void clausesTooMany() {
        String most = PIN.repeat(15) + "wheel0 5;" + "bar0 1 1;".repeat(8) + "stop1=2;".repeat(4) + "pencil0;";
        c.fine(most);
        for (String clause : List.of("pin0 0;", "wheel0 5;", "arm0 1 1 1 0;", "slot0 1 0 1 0;", "copy0 0 0;", "along0 1 1;",
                "bar0 1 1;", "stop1=2;", "pencil0;")) {
            c.fault(most + clause, 3, most.length());
            c.fault(most + clause.repeat((600 - most.length()) / clause.length()), 3, most.length());
        }
        c.fault(PIN.repeat(61), 3, 16 * 7);
        c.fault(most + ";".repeat(31), 1, most.length());
    }

    /** A number at the end of what stands ahead: right from the least to the most, wrong beyond, nowhere wrapped. */
    private static void bounds(String ahead, int least, int most, String behind) {
        int place = ahead.length();
        c.fine(ahead + least + behind);
        c.fine(ahead + most + behind);
        c.fine(ahead + (most - 1) + behind);
        c.fine(ahead + "0".repeat(40) + most + behind);
        c.fault(ahead + (most + 1) + behind, 2, place);
        c.fault(ahead + "0" + (most + 1) + behind, 2, place);
        if (least > 0) {
            c.fault(ahead + (least - 1) + behind, 2, place);
            c.fault(ahead + "000" + behind, 2, place);
        }
        for (int power : new int[] {8, 16, 31, 32, 63, 64, 128}) {
            c.fault(ahead + BigInteger.ONE.shiftLeft(power).add(BigInteger.valueOf(most)) + behind, 2, place);
        }
        c.fault(ahead + "9".repeat(200) + behind, 2, place);
        c.fault(ahead + "-1" + behind, 1, place);
        c.fault(ahead + "+1" + behind, 1, place);
        c.fault(ahead + "z" + behind, 1, place);
        c.fault(ahead + ".5" + behind, 1, place);
        c.fault(ahead.stripTrailing() + ";", 1, ahead.stripTrailing().length());
        c.fault(ahead, 1, place);
    }

    private static void numbersOfJoints() {
        bounds("pin ", 0, 199, " 7;");
        bounds("pin 7 ", 0, 199, ";");
        bounds(FIFTEEN + "wheel ", 0, 15, " 5;");
        bounds(FIFTEEN + "arm ", 0, 15, " 1 7 1 0;");
        bounds(FIFTEEN + "arm 1 ", 1, 99, " 7 1 0;");
        bounds(FIFTEEN + "arm 7 1 ", 0, 15, " 1 0;");
        bounds(FIFTEEN + "arm 1 1 7 ", 1, 99, " 0;");
        bounds(FIFTEEN + "arm 1 1 7 1 ", 0, 1, ";");
        bounds(FIFTEEN + "slot ", 0, 15, " 1 0 1 0;");
        bounds(FIFTEEN + "slot 1 ", 1, 99, " 0 1 0;");
        bounds(FIFTEEN + "slot 1 1 ", 0, 1, " 1 0;");
        bounds(FIFTEEN + "slot 1 1 0 ", 0, 199, " 0;");
        bounds(FIFTEEN + "slot 1 1 1 ", 0, 199, " 0;");
        bounds(FIFTEEN + "slot 1 1 0 1 ", 0, 1, ";");
        bounds(FIFTEEN + "copy ", 0, 15, " 1 2;");
        bounds(FIFTEEN + "copy 1 ", 0, 15, " 2;");
        bounds(FIFTEEN + "copy 1 2 ", 0, 15, ";");
        bounds(FIFTEEN + "along ", 0, 15, " 7 1;");
        bounds(FIFTEEN + "along 7 ", 0, 15, " 1;");
        bounds(FIFTEEN + "along 1 7 ", 0, 16, ";");
    }

    private static void numbersOfTheRest() {
        bounds(SIXTEEN + "bar ", 0, 15, " 7 1;");
        bounds(SIXTEEN + "bar 7 ", 0, 15, " 1;");
        bounds(SIXTEEN + "bar 1 7 ", 1, 999, ";");
        bounds(SIXTEEN + "pencil ", 0, 15, ";");
        bounds(SIXTEEN + "stop x ", 0, 15, "=1;");
        bounds(SIXTEEN + "stop y ", 0, 15, "=1;");
        bounds(SIXTEEN + "stop 1<x ", 0, 15, ";");
        bounds(SIXTEEN + "stop 1>y ", 0, 15, " or 1=1;");
        bounds(SIXTEEN + "stop ", 0, 9999, "=1;");
        bounds(SIXTEEN + "stop 1=", 0, 9999, ";");
        bounds(SIXTEEN + "stop not [1-(2+", 0, 9999, ")<1];");
    }

    /** R is 5, 25 or 65. */
    private static void radii() {
        for (int r = 0; r <= 130; r++) {
            if (r == 5 || r == 25 || r == 65) {
                c.same("wheel of " + r, Checks.made("pin 0 0;wheel 0 " + r + ";").joint(1, 2), r);
            } else {
                c.fault("pin 0 0;wheel 0 " + r + ";", 2, 16);
            }
        }
        for (String r : List.of("4294967301", "65541", "261", "281", "321", "650", "055", "5555")) {
            c.fault("pin 0 0;wheel 0 " + r + ";", 2, 16);
        }
        c.fine("pin 0 0;wheel 0 000005;");
        c.fault("pin 0 0;wheel 0;", 1, 15);
    }

    /** A not B: of an arm, a point along and a bar; a copy's three may be one. */
    private static void twoUnlikeJoints() {
        for (int k = 0; k < 16; k++) {
            String name = k + " ";
            c.fault(FIFTEEN + "arm " + name + "1 " + name + "1 0;", 2, FIFTEEN.length() + 4 + name.length() + 2);
            c.fault(FIFTEEN + "along " + name + name + "1;", 2, FIFTEEN.length() + 6 + name.length());
            c.fault(SIXTEEN + "bar " + name + "00" + name + "1;", 2, SIXTEEN.length() + 4 + name.length());
            c.fine(FIFTEEN + "copy " + name + name + k + ";");
            int next = (k + 1) % 16;
            c.fine(FIFTEEN + "arm " + name + "1 " + next + " 1 0;");
            c.fine(FIFTEEN + "along " + name + next + " 1;");
            c.fine(SIXTEEN + "bar " + name + next + " 1;");
        }
        c.fault("arm 16 1 16 1 0;", 2, 4);
        c.fault("bar 1 1 0;", 2, 6);
    }

    /** Small letters, as many as stand there: a letter more, less or of the other size is another word. */
    private static void words() {
        String[] clauses = {"pin 0 0;", "wheel 0 5;", "arm 0 1 1 1 0;", "slot 0 1 0 1 0;", "copy 0 0 0;", "along 0 1 1;",
            "bar 0 1 1;", "pencil 0;", "stop 1=2;"};
        for (String clause : clauses) {
            int end = clause.indexOf(' ');
            spoilt("pin 0 0;pin 0 0;", clause.substring(0, end), clause.substring(end));
        }
        spoilt(STOP + "1=1 ", "or", " 1=1;");
        spoilt(STOP + "1=1 ", "and", " 1=1;");
        spoilt(STOP, "not", " 1=1;");
        spoilt(STOP, "x", " 0=1;");
        spoilt(STOP + "1<", "y", " 0;");
        c.fault("pin 0 0;" + "a".repeat(592), 1, 8);
    }

    private static void spoilt(String ahead, String word, String behind) {
        int place = ahead.length();
        c.fine(ahead + word + behind);
        c.fine(ahead + "  " + word + behind);
        c.fine(ahead + word + behind.stripLeading());
        for (char letter : new char[] {'a', 'm', 'z'}) {
            c.fault(ahead + word + letter + behind, 1, place);
            c.fault(ahead + letter + word + behind, 1, place);
        }
        if (word.length() > 1) {
            c.fault(ahead + word.substring(1) + behind, 1, place);
            c.fault(ahead + word.substring(0, word.length() - 1) + behind, 1, place);
            c.fault(ahead + word.substring(0, word.length() - 1), 1, place);
        }
        c.fault(ahead + word.toUpperCase() + behind, 1, place);
        for (char beside : new char[] {'`', '{', '@', '[', 'A', 'Z', '_'}) {
            if (beside != '[' || !word.equals("not") && !word.equals("or") && !word.equals("and") && !word.equals("stop")) {
                c.fault(ahead + word + beside + behind, 1, place + word.length());
            }
        }
    }

    /** Blanks may stand ahead of all these, and at the end; nothing else may. */
    private static void blanks() {
        String[] tokens = WHOLE_FACE.split("(?<=[a-z0-9])(?=[^a-z0-9 ])|(?<=[^a-z0-9])(?=[a-z0-9])|(?<=[^a-z0-9 ])(?=[^a-z0-9 ])| ");
        StringBuilder one = new StringBuilder();
        StringBuilder three = new StringBuilder();
        for (String token : tokens) {
            if (!token.isBlank()) {
                one.append(' ').append(token.strip());
                three.append("   ").append(token.strip());
            }
        }
        for (String text : List.of(WHOLE_FACE, one.toString(), one + " ", three + "   ")) {
            DrawingBars bars = Checks.made(text);
            c.same("joints of '" + text + "'", bars.told(0), 6);
            c.same("x of its pin", bars.joint(0, 1), 12);
            c.same("its arm", bars.joint(2, 2), 9);
        }
        for (char other : new char[] {0, 9, 10, 11, 12, 13, 31, 33, 127, 128, 160, 255}) {
            c.fault(other + "pin 0 0;", 1, 0);
            c.fault("pin" + other + "0 0;", 1, 3);
            c.fault("pin 0" + other + "0;", 1, 5);
            c.fault("pin 0 0" + other + ";", 1, 7);
            c.fault("pin 0 0;" + other, 1, 8);
            c.fault("pin 0 0;  " + other, 1, 10);
        }
        c.fault("pi n 0 0;", 1, 0);
        c.fault("pin 0 1 9;", 1, 8);
        c.fault(STOP + "1 0=1;", 1, 15);
        c.fault(STOP + "n ot 1=1;", 1, 13);
    }

    /** Fault 1 at the length, if the text ends too early: behind each number, word and sign but the last of a clause. */
    private static void textsThatEndEarly() {
        java.util.regex.Matcher m = java.util.regex.Pattern.compile("[0-9]+|[a-z]+|[^ ]").matcher(WHOLE_FACE);
        while (m.find()) {
            String cut = WHOLE_FACE.substring(0, m.end());
            if (m.group().equals(";")) {
                continue;
            }
            c.fault(cut, 1, cut.length());
            c.fault(cut + " ", 1, cut.length() + 1);
            c.fault(cut + "    ", 1, cut.length() + 4);
        }
        c.fine(WHOLE_FACE);
    }

    /** Of several faults the first from the left is told, at its first byte. */
    private static void firstFromTheLeft() {
        c.fault("pin 200 200;", 2, 4);
        c.fault("pin 199 200 200;", 2, 8);
        c.fault("pin x 200;", 1, 4);
        c.fault("pin 0 0;bar 0 9 0;pencil", 2, 16);
        c.fault("pin 0 0;bar 0 9 1;pencil", 1, 24);
        c.fault("pin 0 0;bar 0 9 1;", 4, 18);
        c.fault("pin 0 0;wheel 0 5;wheel 0 9;", 3, 18);
        c.fault("pin 0 0;wheel 0 9;wheel 0 5;", 2, 16);
        c.fault("pin 0 0;pencil 3;pencil 16;rod", 3, 17);
        c.fault("pin 0 0;arm 0 0 0 0 5;", 2, 14);
        c.fault("pin 0 0;arm 0 1 0 0 5;", 2, 16);
        c.fault("pin 0 0;arm 0 1 1 0 5;", 2, 18);
        c.fault("pin 0 0;arm 0 1 1 1 5;", 2, 20);
        c.fault("arm 16 0 16 0 9;", 2, 4);
        c.fault(STOP + "1=10000 x;", 2, 15);
        c.fault(STOP + "x 16=1 or [[[[[[[1=1;", 2, 15);
        c.fault(STOP + "[[[[[[[x 16=1;", 3, 19);
        c.fault(STOP + "1=1;stop 1=1;stop 1=1;stop 1=1;stop 1;", 3, 44);
        c.fault("pin 0 0;rod;pin 200 0;", 1, 8);
    }

    /** Of one place the least: 1 ahead of 4 at the length, and ahead of 3 where a seventh can't stand. */
    private static void leastOfOnePlace() {
        c.fault("pin", 1, 3);
        c.fault("pencil 3", 1, 8);
        c.fault("bar 0 1 5", 1, 9);
        c.fault("stop x 3=1", 1, 10);
        c.fault("pin 0 0;bar 0 1 5", 1, 17);
        c.fault("pin 0 0;wheel 7 5", 1, 17);
        c.fault(STOP + "((((((1(2))))))=1;", 1, 20);
        c.fault(STOP + "[[[[[[1=[", 1, 21);
        c.fault(STOP + "[[[[[[1[", 1, 20);
        c.fault(STOP + "[[[[[[1=1[", 1, 22);
        c.fault(STOP + "[[[[[[1=1 not", 1, 23);
        c.fault(STOP + "((((((not 1", 1, 19);
        c.fault(STOP + "(((((([1", 1, 19);
        c.fault(STOP + "not not not not not not 1=not 1", 1, 39);
        c.fault(STOP + "not not not not not not nota 1=1;", 1, 37);
        c.fault(SIXTEEN + "pinn 0 0;", 1, SIXTEEN.length());
        c.fault("pin 0 0;pencil 0;pencils 0;", 1, 17);
        c.fault("pin 0 0;wheel 0 5;wheels 0 5;", 1, 18);
    }

    /** Every mixture of six that are open at one time, and a seventh of each kind behind it. */
    private static void sixOpen() {
        for (int rounds = 0; rounds <= 6; rounds++) {
            int outer = 6 - rounds;
            for (int kinds = 0; kinds < 1 << outer; kinds++) {
                String open = outerOpen(kinds, outer);
                String close = "]".repeat(Integer.bitCount(kinds));
                String inner = STOP + open + "(".repeat(rounds);
                String end = ")".repeat(rounds) + "=1" + close + ";";
                c.fine(inner + "1" + end);
                c.fault(inner + "(1)" + end, 3, inner.length());
                if (rounds == 0) {
                    c.fault(inner + "[1=1]" + end, 3, inner.length());
                    c.fault(inner + "not 1" + end, 3, inner.length());
                }
                c.fault(inner + "  (1)" + end, 3, inner.length() + 2);
            }
        }
    }

    private static String outerOpen(int kinds, int many) {
        StringBuilder open = new StringBuilder();
        for (int i = 0; i < many; i++) {
            open.append((kinds >> i & 1) == 1 ? "[" : "not ");
        }
        return open.toString();
    }

    private static void openRightOfTheSign() {
        for (int rounds = 1; rounds <= 6; rounds++) {
            for (String outer : List.of("[", "not ")) {
                String ahead = STOP + outer.repeat(6 - rounds) + "1<";
                String close = outer.equals("[") ? "]".repeat(6 - rounds) : "";
                String most = ahead + "(".repeat(rounds);
                c.fine(most + "1" + ")".repeat(rounds) + close + ";");
                c.fault(most + "(1)" + ")".repeat(rounds) + close + ";", 3, most.length());
                String beside = most + "1" + ")".repeat(rounds) + "-" + "(".repeat(rounds);
                c.fine(beside + "1" + ")".repeat(rounds) + close + ";");
                c.fault(beside + "(1)" + ")".repeat(rounds) + close + ";", 3, beside.length());
            }
        }
    }

    /** What is closed is open no more; a not till its B ends. */
    private static void openUntilItEnds() {
        String nots = "not ".repeat(6);
        c.fine(STOP + nots + "1=1 and " + nots + "1=1 or " + nots + "1=1;");
        c.fine(STOP + nots + "1=1 or [[[[[[1=1]]]]]] and ((((((1))))))=1;");
        c.fine(STOP + "[[[[[[1=1]]]]]] and [[[[[[1=1]]]]]] or " + nots + "1=1;");
        c.fine(STOP + "((((((1))))))-((((((1))))))+((((((1))))))>((((((1))))));");
        c.fine(STOP + "[not not not not not 1=1 and not not not not not 1=1 or [[[[[1=1]]]]]];");
        c.fine(STOP + "not not not not [1=1 and [1=1] or not 1=1];");
        c.fault(STOP + "not not not not not [1=1 and [1=1]];", 3, 42);
        c.fault(STOP + "not not not not not [1=1 and not 1=1];", 3, 42);
        c.fault(STOP + "not not not not not [1=1 and 1=(1)];", 3, 44);
        c.fault(STOP + nots + "1=1 and " + nots + "not 1=1;", 3, 69);
        c.fault(STOP + "[[[[[[1=1]]]]]] and [[[[[[[1=1]]]]]]];", 3, 39);
        c.fault(STOP + "((((((1))))))-(((((((1)))))))=1;", 3, 33);
        c.fault(STOP + "[" + nots + "1=1];", 3, 34);
        c.fault(STOP + nots + "(1)=1;", 3, 37);
        c.fault(STOP + nots + "1+(1)=1;", 3, 39);
        c.fault(STOP + nots + "1=1+(1);", 3, 41);
    }

    /** Fault 4 at the length: one is named that is not told; the greatest told is no fault. */
    private static void namedAndNotTold() {
        String[] third = NAMED_BY_JOINTS;
        String[] none = NAMED_BY_OTHERS;
        for (int i = 0; i < third.length + none.length; i++) {
            String clause = i < third.length ? third[i] : none[i - third.length];
            int told = i < third.length ? 3 : 2;
            for (int k = 1; k < 16; k++) {
                String text = clause.replace("#", "" + k);
                if (k < told) {
                    c.fine("pin 0 0;pin 1 1;" + text);
                    c.fine(text + "pin 0 0;pin 1 1;");
                } else {
                    c.fault("pin 0 0;pin 1 1;" + text, 4, 16 + text.length());
                    c.fault(text + "pin 0 0;pin 1 1;  ", 4, 18 + text.length());
                }
            }
            c.fine(clause.replace("#", "15") + PIN.repeat(18 - told));
            c.fault(clause.replace("#", "15") + PIN.repeat(17 - told), 4, clause.length() + 1 + 7 * (17 - told));
        }
    }

    /** One that is not told stays named, whatever is named behind it, ahead of it or beside it. */
    private static void namedAheadOfOthers() {
        List<String> clauses = new ArrayList<>(List.of(NAMED_BY_JOINTS));
        clauses.addAll(List.of(NAMED_BY_OTHERS));
        for (String missing : clauses) {
            for (String other : clauses) {
                boolean twice = missing.equals(other) && (missing.startsWith("wheel") || missing.startsWith("pencil"));
                if (!twice) {
                    String told = other.replace("#", "1");
                    String pair = missing.replace("#", "9") + told;
                    String back = told + missing.replace("#", "15");
                    c.fault("pin 0 0;pin 1 1;" + pair, 4, 16 + pair.length());
                    c.fault("pin 0 0;pin 1 1;" + back, 4, 16 + back.length());
                    c.fine("pin 0 0;pin 1 1;" + missing.replace("#", "1") + told);
                }
            }
        }
        c.fault("pin 0 0;stop x 1=x 0;", 4, 21);
        c.fault("pin 0 0;stop x 0=x 1;", 4, 21);
        c.fault("pin 0 0;stop y 1+y 0-x 0<y 0 or x 0=0 and y 0=0;", 4, 48);
    }

    /** Fault 4 at the length: there is no joint. */
    private static void noJoint() {
        for (String text : List.of("", " ", "      ", "stop 1=1;", "stop 1=1; ", "pencil 0;", "bar 0 1 1;", "stop x 0=1;")) {
            c.fault(text, 4, text.length());
        }
        c.fine("stop 1=1;pin 0 0;");
        c.fine("pencil 0;copy 0 0 0;");
    }

    /** Promise 4: of the latest text; NONE without. */
    private static void latestText() {
        DrawingBars bars = new DrawingBars();
        c.same("of no text", bars.fault(), NONE);
        bars.feed(0x70696e20, 0x30203030, 0x3b000000, 0, 0);
        c.same("fed is not read", bars.fault(), NONE);
        c.same("a fault", bars.board(7), -9);
        c.same("its place", bars.fault(), 7);
        c.same("its place again", bars.fault(), 7);
        bars.feed(0, 0, 0, 0, 0);
        c.badArgument("a text that is none", () -> bars.board(21));
        c.same("its place still", bars.fault(), 7);
        c.same("another fault", bars.board(1), -9);
        c.same("its place", bars.fault(), 0);
        c.same("a number that is none", Checks.read(bars, "pin 0 200;"), -8);
        c.same("its place", bars.fault(), 6);
        c.same("a wheel too many", Checks.read(bars, "wheel 0 5;wheel 0 5;"), -7);
        c.same("its place", bars.fault(), 10);
        c.same("one not told", Checks.read(bars, "pin 0 0;pencil 1;"), -6);
        c.same("its place", bars.fault(), 17);
        c.same("a board", Checks.read(bars, "pin 0 0;"), 0);
        c.same("without", bars.fault(), NONE);
        c.same("a fault behind a board", Checks.read(bars, "x"), -9);
        bars.take(0);
        bars.image();
        bars.restore();
        c.same("taking is no text", bars.fault(), 0);
    }
}
