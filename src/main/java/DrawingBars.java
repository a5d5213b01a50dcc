import java.util.NoSuchElementException;

/** Boards of bars that draw, told as texts; what each call does stands in DOC.md, by its promise. */
public final class DrawingBars {
    public static final int NONE = -1;
    public static final int VOID = -2147483648;

    private static final int TAPE_BYTES = 600;
    private static final int MOST_BOARDS = 4;
    private static final int MOST_IMAGES = 3;
    private static final int MOST_POINTS = 36;
    private static final int MOST_CLAUSES = 60;
    private static final int MOST_JOINTS = 16;
    private static final int MOST_BARS = 8;
    private static final int MOST_STOPS = 4;
    private static final int MOST_OPEN = 6;
    private static final int EDGE = 2000;
    private static final int GREATEST_NUMBER = 9999;
    private static final int MISSED_POINT = 1000;
    private static final int LOCKED_BY_STOP = 1000;

    private static final int PIN = 0;
    private static final int WHEEL = 1;
    private static final int ARM = 2;
    private static final int SLOT = 3;
    private static final int COPY = 4;
    private static final int ALONG = 5;
    private static final int BAR = 6;
    private static final int PENCIL = 7;
    private static final int STOP = 8;

    private static final int OUT_OF_PLACE = 1;
    private static final int WRONG_NUMBER = 2;
    private static final int TOO_MANY = 3;
    private static final int NOT_TOLD = 4;

    private static final int PLACED = 0;
    private static final int BY_UNPLACED = 1;
    private static final int BY_BROKEN = 2;
    private static final int NO_SUCH_PLACE = 3;
    private static final int BEYOND_EDGE = 4;
    private static final int LEFT_OVER = 5;

    private final Reader reader;
    private final Board[] boards;
    private final Row row;
    private final Image[] images;
    private int tapeBytes;
    private int faultPlace;
    private int boardCount;
    private int taken;
    private int turned;
    private int imageCount;

    public DrawingBars() {
        reader = new Reader();
        boards = new Board[MOST_BOARDS];
        row = new Row();
        images = new Image[MOST_IMAGES];
        for (int i = 0; i < MOST_IMAGES; i++) {
            images[i] = new Image();
        }
        faultPlace = NONE;
        taken = NONE;
    }

    public int feed(int a, int b, int c, int d, int e) {
        if (tapeBytes + 20 > TAPE_BYTES) {
            return NONE;
        }
        feedNumber(a);
        feedNumber(b);
        feedNumber(c);
        feedNumber(d);
        feedNumber(e);
        return tapeBytes;
    }

    public int board(int n) throws IllegalArgumentException {
        if (n < 0 || n > tapeBytes) {
            throw new IllegalArgumentException();
        }
        tapeBytes = 0;
        faultPlace = NONE;
        // Of a text that finds no room no fault is told, so it is not read at all.
        if (boardCount >= MOST_BOARDS) {
            return NONE;
        }
        int kind = reader.read(n);
        if (kind != 0) {
            faultPlace = reader.faultPlace();
            return kind - 10;
        }
        Board made = Board.of(reader.handOver());
        made.arrange();
        boards[boardCount] = made;
        boardCount++;
        takeAtStart(boardCount - 1);
        return taken;
    }

    public int fault() {
        return faultPlace;
    }

    public int take(int board) throws NoSuchElementException {
        if (board < 0 || board >= boardCount) {
            throw new NoSuchElementException();
        }
        int before = taken;
        takeAtStart(board);
        return before;
    }

    public int told(int what) throws IllegalArgumentException {
        checkWithin(what, 0, 6);
        Board board = takenBoard();
        switch (what) {
            case 0:
                return board == null ? 0 : board.plan.jointCount;
            case 1:
                return board == null ? 0 : board.plan.barCount;
            case 2:
                return board == null ? 0 : board.plan.stopCount;
            case 3:
                return board == null ? 0 : board.stepCount;
            case 4:
                return boardCount;
            case 5:
                return taken;
            default:
                return board == null ? NONE : board.plan.pencil;
        }
    }

    public int joint(int joint, int what) throws NoSuchElementException, IllegalArgumentException {
        Plan plan = planWithJoint(joint);
        checkWithin(what, 0, 5);
        return what == 0 ? plan.kindOf(joint) : plan.numberOf(joint, what);
    }

    public int bar(int bar, int what) throws NoSuchElementException, IllegalArgumentException {
        Plan plan = planWithBar(bar);
        checkWithin(what, 0, 2);
        return plan.barNumber(bar, what);
    }

    public int order(int i) {
        Board board = takenBoard();
        return board == null ? NONE : board.inOrder(i);
    }

    public int over() {
        Board board = takenBoard();
        return board == null ? 0 : board.leftOver;
    }

    public int why(int step, int joint) throws IndexOutOfBoundsException, NoSuchElementException {
        Board board = boardWithStep(step);
        planWithJoint(joint);
        return board.spots.reasonOf(step, joint);
    }

    public int place(int step, int joint, int what)
            throws IndexOutOfBoundsException, NoSuchElementException, IllegalArgumentException {
        Board board = boardWithStep(step);
        planWithJoint(joint);
        checkWithin(what, 0, 1);
        if (board.spots.reasonOf(step, joint) != PLACED) {
            return VOID;
        }
        return what == 0 ? board.spots.drawnX(step, joint) : board.spots.drawnY(step, joint);
    }

    public int side(int step, int joint, int what, int v)
            throws IndexOutOfBoundsException, NoSuchElementException, IllegalArgumentException {
        Board board = boardWithStep(step);
        planWithJoint(joint);
        checkWithin(what, 0, 1);
        checkWithin(v, -GREATEST_NUMBER, GREATEST_NUMBER);
        if (board.spots.reasonOf(step, joint) != PLACED) {
            return VOID;
        }
        return board.spots.against(step, joint, what, v);
    }

    public int whole(int step, int joint) throws IndexOutOfBoundsException, NoSuchElementException {
        Board board = boardWithStep(step);
        planWithJoint(joint);
        if (board.spots.reasonOf(step, joint) != PLACED) {
            return NONE;
        }
        return board.spots.isWhole(step, joint) ? 1 : 0;
    }

    public boolean good(int step) throws IndexOutOfBoundsException {
        return boardWithStep(step).isGood(step);
    }

    public int lock(int step) throws IndexOutOfBoundsException {
        return boardWithStep(step).lockedBy(step);
    }

    public int first() {
        Board board = takenBoard();
        return board == null ? NONE : board.firstLocked();
    }

    public int holds(int step, int bar) throws IndexOutOfBoundsException, NoSuchElementException {
        Board board = boardWithStep(step);
        Plan plan = planWithBar(bar);
        return board.spots.apart(step, plan.barNumber(bar, 0), plan.barNumber(bar, 1), plan.barNumber(bar, 2));
    }

    public boolean cross(int step, int bar, int other)
            throws IndexOutOfBoundsException, NoSuchElementException, IllegalArgumentException {
        Board board = boardWithStep(step);
        checkTwoBars(bar, other);
        return board.barsCross(step, bar, other);
    }

    public int crossers(int bar, int other) throws NoSuchElementException, IllegalArgumentException {
        checkTwoBars(bar, other);
        Board board = takenBoard();
        return board == null ? NONE : board.firstCrossing(bar, other);
    }

    public int layers(int what) throws IllegalArgumentException {
        checkWithin(what, 0, 2);
        Board board = takenBoard();
        if (board == null) {
            return 0;
        }
        Layers found = board.foundLayers();
        switch (what) {
            case 0:
                return found.fewest();
            case 1:
                return found.asDigits();
            default:
                return found.clique();
        }
    }

    public int turn(int n) throws IllegalArgumentException, IllegalStateException {
        checkWithin(n, -100, 100);
        Board board = checkedTaken();
        int way = n < 0 ? -1 : 1;
        int most = n < 0 ? -n : n;
        int went = 0;
        while (went < most && board.isGood(board.stepBeside(turned, way))) {
            turned = board.stepBeside(turned, way);
            went++;
        }
        return went;
    }

    public int now() {
        return taken == NONE ? NONE : turned;
    }

    public int run(int what) throws IllegalArgumentException {
        checkWithin(what, 0, 1);
        Board board = takenBoard();
        if (board == null) {
            return what == 0 ? NONE : 0;
        }
        int from = board.longestRunStart();
        if (what == 0) {
            return from;
        }
        return from == NONE ? 0 : board.goodFrom(from);
    }

    public int curve(int what) throws IllegalArgumentException, IllegalStateException {
        checkWithin(what, 0, 4);
        Curve curve = checkedCurve();
        switch (what) {
            case 0:
                return curve.squares();
            case 1:
                return curve.isClosed() ? 1 : 0;
            case 2:
                return curve.columns();
            case 3:
                return curve.rows();
            default:
                return curve.length();
        }
    }

    public int jump(int what) throws IllegalArgumentException, IllegalStateException {
        checkWithin(what, 0, 1);
        Curve curve = checkedCurve();
        int from = curve.greatestWayFrom();
        if (what == 1) {
            return from;
        }
        return from == NONE ? 0 : curve.wayFrom(from);
    }

    public boolean like(int what) throws IllegalArgumentException, IllegalStateException {
        checkWithin(what, 0, 2);
        return checkedCurve().isLike(what != 1, what != 0);
    }

    public int larger(int joint, int other, int pin, int m) throws NoSuchElementException, IllegalArgumentException {
        planWithJoint(joint);
        planWithJoint(other);
        Plan plan = planWithJoint(pin);
        checkWithin(m, -40, 40);
        if (plan.kindOf(pin) != PIN) {
            throw new IllegalArgumentException();
        }
        Board board = takenBoard();
        return board == null ? NONE : board.drawsLarger(joint, other, pin, m);
    }

    public int mark(int x, int y) throws IllegalArgumentException {
        checkWithin(x, -EDGE, EDGE);
        checkWithin(y, -EDGE, EDGE);
        return row.add(x, y) ? row.count : -1;
    }

    public int clear() {
        int went = row.count;
        row.count = 0;
        return went;
    }

    public int far(int board) throws NoSuchElementException {
        if (board < 0 || board >= boardCount) {
            throw new NoSuchElementException();
        }
        return boards[board].farFrom(row);
    }

    public int nearest() {
        int best = NONE;
        int least = 0;
        for (int i = 0; i < boardCount; i++) {
            int far = boards[i].farFrom(row);
            if (best == NONE || far < least) {
                best = i;
                least = far;
            }
        }
        return best;
    }

    public int lots(int n, int seed, int what) throws IllegalArgumentException, IllegalStateException {
        checkWithin(n, 1, 200);
        checkWithin(what, 0, 1);
        Board board = checkedTaken();
        int lot = seed;
        int step = turned;
        int stops = 0;
        for (int i = 0; i < n; i++) {
            lot = lot * 1103515245 + 12345;
            int way = (lot >>> 16 & 0x7fff) % 3 - 1;
            if (way != 0) {
                int next = board.stepBeside(step, way);
                boolean goes = board.isGood(next);
                step = goes ? next : step;
                stops += goes ? 0 : 1;
            }
        }
        return what == 0 ? step : stops;
    }

    public int image() {
        if (imageCount >= MOST_IMAGES) {
            return -1;
        }
        images[imageCount].keep(taken, turned, row);
        imageCount++;
        return imageCount;
    }

    public int restore() {
        if (imageCount <= 0) {
            return -1;
        }
        imageCount--;
        Image latest = images[imageCount];
        taken = latest.taken;
        turned = latest.turned;
        row.become(latest.row);
        return imageCount;
    }

    public int count(int what) {
        switch (what) {
            case 0:
                return row.count;
            case 1:
                return imageCount;
            case 2:
                return tapeBytes;
            default:
                return NONE;
        }
    }

    private void feedNumber(int number) {
        for (int shift = 24; shift >= 0; shift -= 8) {
            reader.put(tapeBytes, number >>> shift & 255);
            tapeBytes++;
        }
    }

    private void takeAtStart(int board) {
        taken = board;
        turned = 0;
    }

    private Board takenBoard() {
        return taken < 0 || taken >= boardCount ? null : boards[taken];
    }

    private Board checkedTaken() {
        Board board = takenBoard();
        if (board == null) {
            throw new IllegalStateException();
        }
        return board;
    }

    private Curve checkedCurve() {
        Board board = takenBoard();
        if (board == null || board.plan.pencil == NONE) {
            throw new IllegalStateException();
        }
        return board.curve;
    }

    private Board boardWithStep(int step) {
        Board board = takenBoard();
        if (board == null || step < 0 || step >= board.stepCount) {
            throw new IndexOutOfBoundsException();
        }
        return board;
    }

    private Plan planWithJoint(int joint) {
        Board board = takenBoard();
        if (board == null || joint < 0 || joint >= board.plan.jointCount) {
            throw new NoSuchElementException();
        }
        return board.plan;
    }

    private Plan planWithBar(int bar) {
        Board board = takenBoard();
        if (board == null || bar < 0 || bar >= board.plan.barCount) {
            throw new NoSuchElementException();
        }
        return board.plan;
    }

    private void checkTwoBars(int bar, int other) {
        planWithBar(bar);
        planWithBar(other);
        if (bar == other) {
            throw new IllegalArgumentException();
        }
    }

    private static void checkWithin(int number, int least, int most) {
        if (number < least || number > most) {
            throw new IllegalArgumentException();
        }
    }

    /** The told points, in their order. */
    private static final class Row {
        private final int[] xs = new int[MOST_POINTS];
        private final int[] ys = new int[MOST_POINTS];
        private int count;

        private boolean add(int x, int y) {
            if (count >= MOST_POINTS) {
                return false;
            }
            xs[count] = x;
            ys[count] = y;
            count++;
            return true;
        }

        private void become(Row other) {
            count = other.count;
            System.arraycopy(other.xs, 0, xs, 0, MOST_POINTS);
            System.arraycopy(other.ys, 0, ys, 0, MOST_POINTS);
        }
    }

    /** What an image keeps; the boards themselves never change, so their number is enough. */
    private static final class Image {
        private final Row row = new Row();
        private int taken;
        private int turned;

        private void keep(int takenNow, int turnedNow, Row rowNow) {
            taken = takenNow;
            turned = turnedNow;
            row.become(rowNow);
        }
    }

    /** A board as it was told, without any place worked out. */
    private static final class Plan {
        private static final int JOINT_WIDTH = 6;
        private static final int BAR_WIDTH = 3;

        private final int[] joints = new int[MOST_JOINTS * JOINT_WIDTH];
        private final int[] bars = new int[MOST_BARS * BAR_WIDTH];
        private final int[] codes = new int[TAPE_BYTES];
        private final int[] stopEnds = new int[MOST_STOPS];
        private int jointCount;
        private int barCount;
        private int codeCount;
        private int stopCount;
        private int pencil = NONE;
        private int wheelRadius;

        private void empty() {
            jointCount = 0;
            barCount = 0;
            codeCount = 0;
            stopCount = 0;
            pencil = NONE;
            wheelRadius = 0;
        }

        private int kindOf(int joint) {
            return joints[joint * JOINT_WIDTH];
        }

        private boolean isShifted(int joint) {
            return kindOf(joint) == COPY || kindOf(joint) == ALONG;
        }

        /** The i-th number told of a joint, from 1 on. */
        private int numberOf(int joint, int i) {
            return i <= numbersOf(kindOf(joint)).length() ? joints[joint * JOINT_WIDTH + i] : NONE;
        }

        private int barNumber(int bar, int i) {
            return bars[bar * BAR_WIDTH + i];
        }

        /** The joints that a joint is told by, as bits. */
        private int toldBy(int joint) {
            String numbers = numbersOf(kindOf(joint));
            int bits = 0;
            for (int i = 0; i < numbers.length(); i++) {
                if (numbers.charAt(i) == 'j' || numbers.charAt(i) == 'o') {
                    bits |= 1 << joints[joint * JOINT_WIDTH + 1 + i];
                }
            }
            return bits;
        }

        private void addCode(int code) {
            if (codeCount < codes.length) {
                codes[codeCount] = code;
                codeCount++;
            }
        }

        private int steps() {
            switch (wheelRadius) {
                case 5:
                    return 12;
                case 25:
                    return 20;
                case 65:
                    return 36;
                default:
                    return 1;
            }
        }

        private static String wordOf(int kind) {
            switch (kind) {
                case PIN:
                    return "pin";
                case WHEEL:
                    return "wheel";
                case ARM:
                    return "arm";
                case SLOT:
                    return "slot";
                case COPY:
                    return "copy";
                case ALONG:
                    return "along";
                case BAR:
                    return "bar";
                case PENCIL:
                    return "pencil";
                default:
                    return "stop";
            }
        }

        /** A letter for each number behind a word: j a joint, o one unlike the first, the rest as mostOf bounds it. */
        private static String numbersOf(int kind) {
            switch (kind) {
                case PIN:
                    return "cc";
                case WHEEL:
                    return "jr";
                case ARM:
                    return "jmomf";
                case SLOT:
                    return "jmfcf";
                case COPY:
                    return "jjj";
                case ALONG:
                    return "joq";
                case BAR:
                    return "jol";
                default:
                    return "j";
            }
        }
    }

    /** Reads a text into a plan, up to its first fault. */
    private static final class Reader {
        private static final int END = -1;
        private static final int NUMBER_TOO_GREAT = 100000;

        private final int[] text = new int[TAPE_BYTES];
        private Plan plan = new Plan();
        private int length;
        private int at;
        private int numberPlace;
        private int faultKind;
        private int faultAt;
        private int named;
        private int clauses;

        private void put(int place, int sign) {
            if (place >= 0 && place < text.length) {
                text[place] = sign;
            }
        }

        /** Answers the kind of the fault, 0 without. */
        private int read(int bytes) {
            plan.empty();
            length = Math.min(bytes, text.length);
            at = 0;
            faultKind = 0;
            faultAt = NONE;
            named = 0;
            clauses = 0;
            for (int i = 0; i <= length && faultKind == 0 && look() != END; i++) {
                readClause();
            }
            if (plan.jointCount == 0 || named >>> plan.jointCount != 0) {
                fail(NOT_TOLD, length);
            }
            return faultKind;
        }

        private int faultPlace() {
            return faultAt;
        }

        /** The plan as read; the next text gets another one. */
        private Plan handOver() {
            Plan done = plan;
            plan = new Plan();
            return done;
        }

        private void fail(int kind, int place) {
            if (faultKind == 0) {
                faultKind = kind;
                faultAt = place;
            }
        }

        /** The next byte that is no blank; it stays. */
        private int look() {
            while (at < length && text[at] == ' ') {
                at++;
            }
            return at < length ? text[at] : END;
        }

        private void readClause() {
            look();
            int word = at;
            int kind = readKind();
            if (kind == NONE) {
                fail(OUT_OF_PLACE, word);
            } else if (isTooMany(kind)) {
                fail(TOO_MANY, word);
            } else if (kind == STOP) {
                readChoice(0);
                plan.stopEnds[plan.stopCount] = plan.codeCount;
                plan.stopCount++;
            } else if (kind == PENCIL) {
                plan.pencil = readTold('j', NONE);
            } else if (kind == BAR) {
                readNumbers(kind, plan.bars, plan.barCount * Plan.BAR_WIDTH);
                plan.barCount++;
            } else {
                readJoint(kind);
            }
            clauses++;
            needSign(';');
        }

        private int readKind() {
            for (int kind = PIN; kind <= STOP; kind++) {
                if (skipWord(Plan.wordOf(kind))) {
                    return kind;
                }
            }
            return NONE;
        }

        private boolean isTooMany(int kind) {
            if (clauses >= MOST_CLAUSES) {
                return true;
            }
            switch (kind) {
                case BAR:
                    return plan.barCount >= MOST_BARS;
                case PENCIL:
                    return plan.pencil != NONE;
                case STOP:
                    return plan.stopCount >= MOST_STOPS;
                case WHEEL:
                    return plan.wheelRadius != 0 || plan.jointCount >= MOST_JOINTS;
                default:
                    return plan.jointCount >= MOST_JOINTS;
            }
        }

        private void readJoint(int kind) {
            int from = plan.jointCount * Plan.JOINT_WIDTH;
            plan.joints[from] = kind;
            readNumbers(kind, plan.joints, from + 1);
            if (kind == WHEEL) {
                plan.wheelRadius = plan.joints[from + 2];
            }
            plan.jointCount++;
        }

        private void readNumbers(int kind, int[] into, int from) {
            String numbers = Plan.numbersOf(kind);
            for (int i = 0; i < numbers.length() && from + i < into.length; i++) {
                into[from + i] = readTold(numbers.charAt(i), into[from]);
            }
        }

        private int readTold(int letter, int firstTold) {
            int number = readNumber(leastOf(letter), mostOf(letter));
            boolean isRadius = number == 5 || number == 25 || number == 65;
            if (letter == 'o' && number == firstTold || letter == 'r' && !isRadius) {
                fail(WRONG_NUMBER, numberPlace);
            }
            named |= letter == 'j' || letter == 'o' ? 1 << number : 0;
            return number;
        }

        private static int leastOf(int letter) {
            return letter == 'm' || letter == 'l' ? 1 : 0;
        }

        private static int mostOf(int letter) {
            switch (letter) {
                case 'c':
                    return 199;
                case 'r':
                    return 65;
                case 'm':
                    return 99;
                case 'f':
                    return 1;
                case 'q':
                    return 16;
                case 'l':
                    return 999;
                default:
                    return MOST_JOINTS - 1;
            }
        }

        /** Behind a fault nothing more is read, and the least number stands in. */
        private int readNumber(int least, int most) {
            if (faultKind != 0) {
                return least;
            }
            int digit = look();
            numberPlace = at;
            if (digit < '0' || digit > '9') {
                fail(OUT_OF_PLACE, at);
                return least;
            }
            int number = 0;
            while (at < length && text[at] >= '0' && text[at] <= '9') {
                number = Math.min(number * 10 + text[at] - '0', NUMBER_TOO_GREAT);
                at++;
            }
            if (number < least || number > most) {
                fail(WRONG_NUMBER, numberPlace);
                return least;
            }
            return number;
        }

        private void readChoice(int open) {
            boolean more = true;
            for (int i = 0; i <= length && more; i++) {
                readClaim(open);
                for (int j = 0; j <= length && skipWord("and"); j++) {
                    readClaim(open);
                    plan.addCode(Stops.AND);
                }
                if (i > 0) {
                    plan.addCode(Stops.OR);
                }
                more = skipWord("or");
            }
        }

        private void readClaim(int open) {
            int nots = 0;
            int next = look();
            int place = at;
            while (nots <= MOST_OPEN && skipWord("not")) {
                if (!isOpenable(open + nots, place)) {
                    break;
                }
                nots++;
                next = look();
                place = at;
            }
            int inner = open + nots;
            if (next != '[') {
                readSum(inner);
                int comparison = skipSign('<') ? Stops.LESS : skipSign('>') ? Stops.MORE : Stops.SAME;
                if (comparison == Stops.SAME) {
                    needSign('=');
                }
                readSum(inner);
                plan.addCode(comparison);
            } else if (isOpenable(inner, place)) {
                at++;
                readChoice(inner + 1);
                needSign(']');
            }
            for (; nots > 0; nots--) {
                plan.addCode(Stops.NOT);
            }
        }

        private boolean isOpenable(int open, int place) {
            if (open >= MOST_OPEN) {
                fail(TOO_MANY, place);
            }
            return faultKind == 0;
        }

        /** A parenthesis only turns signs, so each number joins the whole sum by a sign of its own. */
        private void readSum(int open) {
            int inside = 0;
            int turnedInside = 0;
            boolean minus = false;
            for (int i = 0; i <= length && faultKind == 0; i++) {
                while (inside <= MOST_OPEN && look() == '(' && isOpenable(open + inside, at)) {
                    at++;
                    inside++;
                    turnedInside = minus ? turnedInside | 1 << inside : turnedInside & ~(1 << inside);
                }
                boolean isX = skipWord("x");
                if (isX || skipWord("y")) {
                    int joint = readNumber(0, MOST_JOINTS - 1);
                    named |= 1 << joint;
                    plan.addCode((isX ? Stops.X_OF : Stops.Y_OF) + joint);
                } else {
                    plan.addCode(Stops.NUMBER + readNumber(0, GREATEST_NUMBER));
                }
                if (i > 0) {
                    plan.addCode(minus ? Stops.LESS_BY : Stops.PLUS);
                }
                while (inside > 0 && skipSign(')')) {
                    inside--;
                }
                boolean turned = (turnedInside >> inside & 1) == 1;
                if (skipSign('+')) {
                    minus = turned;
                } else if (skipSign('-')) {
                    minus = !turned;
                } else {
                    break;
                }
            }
            if (inside > 0) {
                needSign(')');
            }
        }

        private boolean skipSign(int sign) {
            boolean stands = faultKind == 0 && look() == sign;
            at += stands ? 1 : 0;
            return stands;
        }

        private void needSign(int sign) {
            if (look() != sign) {
                fail(OUT_OF_PLACE, at);
            }
            at += faultKind == 0 ? 1 : 0;
        }

        /** A longer word that begins like this one is another word. */
        private boolean skipWord(String word) {
            look();
            int end = at + word.length();
            boolean stands = faultKind == 0 && end <= length;
            for (int i = 0; stands && i < word.length(); i++) {
                stands = text[at + i] == word.charAt(i);
            }
            stands = stands && !(end < length && text[end] >= 'a' && text[end] <= 'z');
            at = stands ? end : at;
            return stands;
        }
    }

    /** Whether stops hold; a stop is kept as codes, what is joined ahead of what joins it. */
    private static final class Stops {
        private static final int KIND = 16;
        private static final int NUMBER = 0;
        private static final int X_OF = 1 << KIND;
        private static final int Y_OF = 2 << KIND;
        private static final int PLUS = 3 << KIND;
        private static final int LESS_BY = 4 << KIND;
        private static final int LESS = 5 << KIND;
        private static final int MORE = 6 << KIND;
        private static final int SAME = 7 << KIND;
        private static final int AND = 8 << KIND;
        private static final int OR = 9 << KIND;
        private static final int NOT = 10 << KIND;
        /** Seven levels, each with at most a sum, a comparison, an and and an or that wait. */
        private static final int DEEPEST = 40;

        private final Plan plan;
        private final Spots spots;
        private final int[] waiting = new int[DEEPEST];
        private int waitingCount;

        private Stops(Plan plan, Spots spots) {
            this.plan = plan;
            this.spots = spots;
        }

        /** The first stop that holds at a step at which all joints are placed; NONE. */
        private int firstHolding(int step) {
            int from = 0;
            for (int stop = 0; stop < plan.stopCount; stop++) {
                int end = Math.min(plan.stopEnds[stop], plan.codes.length);
                waitingCount = 0;
                for (int i = from; i < end; i++) {
                    apply(plan.codes[i], step);
                }
                if (waitingCount == 1 && waiting[0] != 0) {
                    return stop;
                }
                from = end;
            }
            return NONE;
        }

        private void apply(int code, int step) {
            int number = code & (1 << KIND) - 1;
            int kind = code - number;
            if (kind == NUMBER) {
                push(number);
            } else if (kind == X_OF) {
                push(spots.drawnX(step, number));
            } else if (kind == Y_OF) {
                push(spots.drawnY(step, number));
            } else if (kind == NOT && waitingCount >= 1) {
                waiting[waitingCount - 1] = 1 - waiting[waitingCount - 1];
            } else if (waitingCount >= 2) {
                waitingCount--;
                waiting[waitingCount - 1] = join(kind, waiting[waitingCount - 1], waiting[waitingCount]);
            }
        }

        private void push(int number) {
            if (waitingCount < DEEPEST) {
                waiting[waitingCount] = number;
                waitingCount++;
            }
        }

        private static int join(int kind, int left, int right) {
            switch (kind) {
                case PLUS:
                    return left + right;
                case LESS_BY:
                    return left - right;
                case LESS:
                    return left < right ? 1 : 0;
                case MORE:
                    return left > right ? 1 : 0;
                case SAME:
                    return left == right ? 1 : 0;
                case AND:
                    return left & right;
                default:
                    return left | right;
            }
        }
    }

    /** Exact numbers (base + times * root of square) / under, the square no square number, the under above 0. */
    private static final class Roots {
        private Roots() {
        }

        /** The greatest whole number whose square is not above n. */
        private static long floorRoot(long n) {
            if (n <= 0) {
                return 0;
            }
            // From above, each of Newton's steps comes nearer, and the first that does not has arrived.
            long root = 1L << (65 - Long.numberOfLeadingZeros(n)) / 2;
            for (int i = 0; i < 64 && root > 0; i++) {
                long nearer = (root + n / root) / 2;
                if (nearer >= root) {
                    return root;
                }
                root = nearer;
            }
            return root;
        }

        private static int sign(long base, long times, long square) {
            long floor = floorOf(base, times, square);
            if (floor != 0 || times == 0) {
                return Long.signum(floor);
            }
            // Between 0 and 1, and a root that is not whole is never at 0.
            return 1;
        }

        /** The part above the line, cut down to a whole number. */
        private static long floorOf(long base, long times, long square) {
            if (times == 0) {
                return base;
            }
            long root = floorRoot(times * times * square);
            return times > 0 ? base + root : base - root - 1;
        }
    }

    /** Where every joint is at every step, exactly. */
    private static final class Spots {
        /** The wheel's points from the right up to the top; their heights are the same numbers backward. */
        private static final int[] WHEEL_5 = {5, 4, 3};
        private static final int[] WHEEL_25 = {25, 24, 20, 15, 7};
        private static final int[] WHEEL_65 = {65, 63, 60, 56, 52, 39, 33, 25, 16};

        private final Plan plan;
        private final int width;
        private final long[] xBase;
        private final long[] xTimes;
        private final long[] yBase;
        private final long[] yTimes;
        private final long[] square;
        private final long[] under;
        private final int[] reason;
        private final int[] root;
        private final int[] x;
        private final int[] y;
        private final boolean[] whole;

        private Spots(Plan plan, int steps) {
            this.plan = plan;
            width = plan.jointCount;
            int size = steps * width;
            xBase = new long[size];
            xTimes = new long[size];
            yBase = new long[size];
            yTimes = new long[size];
            square = new long[size];
            under = new long[size];
            reason = new int[size];
            root = new int[size];
            x = new int[size];
            y = new int[size];
            whole = new boolean[size];
            for (int i = 0; i < size; i++) {
                reason[i] = LEFT_OVER;
                under[i] = 1;
            }
        }

        private int reasonOf(int step, int joint) {
            return reason[step * width + joint];
        }

        private int drawnX(int step, int joint) {
            return x[step * width + joint];
        }

        private int drawnY(int step, int joint) {
            return y[step * width + joint];
        }

        private boolean isWhole(int step, int joint) {
            return whole[step * width + joint];
        }

        /** Places a joint; those that it is told by have been tried before. */
        private void settle(int step, int joint) {
            int at = step * width + joint;
            int broken = brokenAmong(step, plan.toldBy(joint));
            root[at] = broken > 0 && plan.isShifted(joint) ? Integer.numberOfTrailingZeros(broken) : joint;
            int found = hindrance(joint, broken);
            if (found == PLACED) {
                found = seek(step, joint);
            }
            if (found == PLACED) {
                found = finish(at);
            }
            reason[at] = found;
        }

        /** Those of some joints that are not whole, as bits; NONE, if one is not placed. */
        private int brokenAmong(int step, int joints) {
            int broken = 0;
            for (int k = 0; k < width; k++) {
                if ((joints >> k & 1) == 0) {
                    continue;
                }
                if (reasonOf(step, k) != PLACED) {
                    return NONE;
                }
                broken |= isWhole(step, k) ? 0 : 1 << k;
            }
            return broken;
        }

        private int hindrance(int joint, int broken) {
            if (broken == NONE) {
                return BY_UNPLACED;
            }
            if (broken == 0) {
                return PLACED;
            }
            boolean bearable = plan.isShifted(joint) && Integer.bitCount(broken) == 1
                    && !plan.isShifted(Integer.numberOfTrailingZeros(broken));
            return bearable ? PLACED : BY_BROKEN;
        }

        private int seek(int step, int joint) {
            int at = step * width + joint;
            square[at] = 0;
            under[at] = 1;
            switch (plan.kindOf(joint)) {
                case PIN:
                    putWhole(at, plan.numberOf(joint, 1), plan.numberOf(joint, 2));
                    return PLACED;
                case WHEEL:
                    seekWheel(step, joint);
                    return PLACED;
                case ARM:
                    return seekArm(step, joint);
                case SLOT:
                    return seekSlot(step, joint);
                default:
                    seekShifted(step, joint);
                    return PLACED;
            }
        }

        private void putWhole(int at, long wholeX, long wholeY) {
            xBase[at] = wholeX;
            xTimes[at] = 0;
            yBase[at] = wholeY;
            yTimes[at] = 0;
            square[at] = 0;
            under[at] = 1;
        }

        private void seekWheel(int step, int joint) {
            int radius = plan.numberOf(joint, 2);
            int[] row = radius == 5 ? WHEEL_5 : radius == 25 ? WHEEL_25 : WHEEL_65;
            int i = step;
            int quarters = 0;
            while (quarters < 3 && i >= row.length) {
                i -= row.length;
                quarters++;
            }
            long right = i < row.length ? row[i] : 0;
            long up = i > 0 && i < row.length ? row[row.length - i] : 0;
            for (; quarters > 0; quarters--) {
                long before = right;
                right = -up;
                up = before;
            }
            int middle = step * width + plan.numberOf(joint, 1);
            putWhole(step * width + joint, xBase[middle] + right, yBase[middle] + up);
        }

        private int seekArm(int step, int joint) {
            int at = step * width + joint;
            int a = step * width + plan.numberOf(joint, 1);
            int b = step * width + plan.numberOf(joint, 3);
            long m = plan.numberOf(joint, 2);
            long n = plan.numberOf(joint, 4);
            long dx = xBase[b] - xBase[a];
            long dy = yBase[b] - yBase[a];
            long apart = dx * dx + dy * dy;
            long foot = apart + m * m - n * n;
            long rest = 4 * apart * m * m - foot * foot;
            if (apart == 0 || rest < 0) {
                return NO_SUCH_PLACE;
            }
            long left = plan.numberOf(joint, 5) == 0 ? 1 : -1;
            xBase[at] = 2 * apart * xBase[a] + foot * dx;
            yBase[at] = 2 * apart * yBase[a] + foot * dy;
            xTimes[at] = -left * dy;
            yTimes[at] = left * dx;
            under[at] = 2 * apart;
            putSquare(at, rest);
            return PLACED;
        }

        private int seekSlot(int step, int joint) {
            int at = step * width + joint;
            int a = step * width + plan.numberOf(joint, 1);
            long m = plan.numberOf(joint, 2);
            boolean level = plan.numberOf(joint, 3) == 0;
            long fixed = plan.numberOf(joint, 4);
            long way = plan.numberOf(joint, 5) == 0 ? -1 : 1;
            long off = fixed - (level ? yBase[a] : xBase[a]);
            long rest = m * m - off * off;
            if (rest < 0) {
                return NO_SUCH_PLACE;
            }
            xBase[at] = level ? xBase[a] : fixed;
            yBase[at] = level ? fixed : yBase[a];
            xTimes[at] = level ? way : 0;
            yTimes[at] = level ? 0 : way;
            putSquare(at, rest);
            return PLACED;
        }

        /** A square number has a whole root, which goes into the bases. */
        private void putSquare(int at, long rest) {
            long floor = Roots.floorRoot(rest);
            square[at] = rest;
            if (floor * floor == rest) {
                xBase[at] += xTimes[at] * floor;
                yBase[at] += yTimes[at] * floor;
                xTimes[at] = 0;
                yTimes[at] = 0;
                square[at] = 0;
            }
        }

        /** Copies and points along are sums of the places that they are told by, so one root at most comes in. */
        private void seekShifted(int step, int joint) {
            int at = step * width + joint;
            int origin = step * width + root[at];
            boolean rooted = root[at] != joint;
            square[at] = rooted ? square[origin] : 0;
            under[at] = rooted ? under[origin] : 1;
            xBase[at] = 0;
            xTimes[at] = 0;
            yBase[at] = 0;
            yTimes[at] = 0;
            int a = step * width + plan.numberOf(joint, 1);
            int b = step * width + plan.numberOf(joint, 2);
            if (plan.kindOf(joint) == COPY) {
                addTimes(at, a, 1);
                addTimes(at, b, 1);
                addTimes(at, step * width + plan.numberOf(joint, 3), -1);
            } else {
                int quarters = plan.numberOf(joint, 3);
                addTimes(at, a, 4 - quarters);
                addTimes(at, b, quarters);
                under[at] *= 4;
            }
        }

        private void addTimes(int at, int other, long times) {
            long factor = whole[other] ? times * under[at] : times;
            xBase[at] += factor * xBase[other];
            xTimes[at] += factor * xTimes[other];
            yBase[at] += factor * yBase[other];
            yTimes[at] += factor * yTimes[other];
        }

        private int finish(int at) {
            long floorX = cutDown(xBase[at], xTimes[at], at);
            long floorY = cutDown(yBase[at], yTimes[at], at);
            boolean wholeX = xTimes[at] == 0 && xBase[at] == floorX * under[at];
            boolean wholeY = yTimes[at] == 0 && yBase[at] == floorY * under[at];
            if (isBeyondEdge(floorX, wholeX) || isBeyondEdge(floorY, wholeY)) {
                return BEYOND_EDGE;
            }
            x[at] = (int) floorX;
            y[at] = (int) floorY;
            whole[at] = wholeX && wholeY;
            if (whole[at]) {
                putWhole(at, floorX, floorY);
            }
            return PLACED;
        }

        /** A number that is not whole lies above its floor, and so may be beyond where that is not. */
        private static boolean isBeyondEdge(long floor, boolean isAtFloor) {
            return floor < -EDGE || floor > EDGE || floor == EDGE && !isAtFloor;
        }

        private long cutDown(long base, long times, int at) {
            long divisor = under[at] > 0 ? under[at] : 1;
            return Math.floorDiv(Roots.floorOf(base, times, square[at]), divisor);
        }

        private int against(int step, int joint, int what, int v) {
            int at = step * width + joint;
            long base = what == 0 ? xBase[at] : yBase[at];
            long times = what == 0 ? xTimes[at] : yTimes[at];
            return Roots.sign(base - v * under[at], times, square[at]);
        }

        /** Roots of two kinds in one sum are not reckoned. */
        private boolean areUnlike(int step, int a, int b) {
            int one = step * width + a;
            int other = step * width + b;
            return !whole[one] && !whole[other] && root[one] != root[other];
        }

        /** Whether two joints are exactly so far apart: 1, 0; NONE, if it is not to be had. */
        private int apart(int step, int a, int b, long length) {
            if (reasonOf(step, a) != PLACED || reasonOf(step, b) != PLACED || areUnlike(step, a, b)) {
                return NONE;
            }
            int one = step * width + a;
            int other = step * width + b;
            // Of like roots one under divides the other: they differ by the quarters of a point along.
            long common = Math.max(under[one], under[other]);
            long f = under[one] > 0 ? common / under[one] : 1;
            long g = under[other] > 0 ? common / under[other] : 1;
            long p = f * xBase[one] - g * xBase[other];
            long q = f * yBase[one] - g * yBase[other];
            long s = f * xTimes[one] - g * xTimes[other];
            long t = f * yTimes[one] - g * yTimes[other];
            long under2 = Math.max(square[one], square[other]);
            boolean exact = p * s + q * t == 0
                    && p * p + q * q + (s * s + t * t) * under2 == length * length * common * common;
            return exact ? 1 : 0;
        }

        /** Whether a joint's way from a pin is m quarters of another one's; the pin is whole. */
        private boolean isScaled(int step, int joint, int other, int pin, int m) {
            int one = step * width + joint;
            int two = step * width + other;
            int from = step * width + pin;
            long f = 4 * under[two];
            long g = m * under[one];
            return f * (xBase[one] - xBase[from] * under[one]) == g * (xBase[two] - xBase[from] * under[two])
                    && f * (yBase[one] - yBase[from] * under[one]) == g * (yBase[two] - yBase[from] * under[two])
                    && f * xTimes[one] == g * xTimes[two]
                    && f * yTimes[one] == g * yTimes[two];
        }
    }

    /** The fewest layers of bars, and the greatest set that all cross each other. */
    private static final class Layers {
        private final int count;
        private final int[] crossed = new int[MOST_BARS];
        private final int[] layer = new int[MOST_BARS];
        private int layerCount;

        private Layers(int bars) {
            count = bars;
        }

        private void addCrossers(int bar, int other) {
            crossed[bar] |= 1 << other;
            crossed[other] |= 1 << bar;
        }

        private void find() {
            layerCount = 0;
            for (int most = 1; most <= count && layerCount == 0; most++) {
                layerCount = paints(this, 0, 0, most) ? most : 0;
            }
        }

        private int fewest() {
            return layerCount;
        }

        private int asDigits() {
            int digits = 0;
            for (int bar = 0; bar < count; bar++) {
                digits = digits * 10 + layer[bar];
            }
            return digits;
        }

        /** Of ways that only name the layers otherwise the first one opens them in their order. */
        private static boolean paints(Layers way, int bar, int used, int most) {
            if (bar >= way.count) {
                return true;
            }
            for (int next = 1; next <= most && next <= used + 1; next++) {
                if (way.isFree(bar, next)) {
                    way.layer[bar] = next;
                    if (paints(way, bar + 1, Math.max(used, next), most)) {
                        return true;
                    }
                }
            }
            return false;
        }

        private boolean isFree(int bar, int wanted) {
            for (int before = 0; before < bar; before++) {
                if (layer[before] == wanted && (crossed[bar] >> before & 1) == 1) {
                    return false;
                }
            }
            return true;
        }

        private int clique() {
            int best = 0;
            for (int bars = 1; bars < 1 << count; bars++) {
                if (Integer.bitCount(bars) > Integer.bitCount(best) && allCross(bars)) {
                    best = bars;
                }
            }
            return best;
        }

        private boolean allCross(int bars) {
            for (int bar = 0; bar < count; bar++) {
                int others = bars & ~(1 << bar);
                if (others != bars && (others & ~crossed[bar]) != 0) {
                    return false;
                }
            }
            return true;
        }
    }

    /** A board with all that its text settles, worked out once. */
    private static final class Board {
        private final Plan plan;
        private final int stepCount;
        private final Spots spots;
        private final Stops stops;
        private final Curve curve;
        private final int[] order;
        private final int[] locks;
        private Layers layers;
        private int orderCount;
        private int leftOver;

        private Board(Plan plan, Spots spots, Stops stops, Curve curve, int[] locks) {
            this.plan = plan;
            this.spots = spots;
            this.stops = stops;
            this.curve = curve;
            this.locks = locks;
            stepCount = locks.length;
            order = new int[plan.jointCount];
        }

        private static Board of(Plan told) {
            int[] locks = new int[told.steps()];
            Spots spots = new Spots(told, locks.length);
            return new Board(told, spots, new Stops(told, spots), new Curve(spots, locks, told.pencil), locks);
        }

        private void arrange() {
            findOrder();
            for (int step = 0; step < stepCount; step++) {
                for (int i = 0; i < orderCount; i++) {
                    spots.settle(step, order[i]);
                }
                locks[step] = findLock(step);
            }
        }

        /** They are worked out when they are first asked for, since many boards are never asked. */
        private Layers foundLayers() {
            if (layers != null) {
                return layers;
            }
            layers = new Layers(plan.barCount);
            for (int bar = 0; bar < plan.barCount; bar++) {
                for (int other = 0; other < bar; other++) {
                    if (firstCrossing(bar, other) != NONE) {
                        layers.addCrossers(bar, other);
                    }
                }
            }
            layers.find();
            return layers;
        }

        private void findOrder() {
            int come = 0;
            for (int i = 0; i < plan.jointCount; i++) {
                int next = leastReady(come);
                if (next == NONE) {
                    break;
                }
                order[orderCount] = next;
                orderCount++;
                come |= 1 << next;
            }
            leftOver = (1 << plan.jointCount) - 1 & ~come;
        }

        private int leastReady(int come) {
            for (int joint = 0; joint < plan.jointCount; joint++) {
                if ((come >> joint & 1) == 0 && (plan.toldBy(joint) & ~come) == 0) {
                    return joint;
                }
            }
            return NONE;
        }

        private int findLock(int step) {
            for (int i = 0; i < orderCount; i++) {
                int reason = spots.reasonOf(step, order[i]);
                if (reason != PLACED && reason != BY_UNPLACED) {
                    return order[i] * 10 + reason;
                }
            }
            if (leftOver != 0) {
                return Integer.numberOfTrailingZeros(leftOver) * 10 + LEFT_OVER;
            }
            int stop = stops.firstHolding(step);
            return stop == NONE ? NONE : LOCKED_BY_STOP + stop;
        }

        private int inOrder(int i) {
            return i < 0 || i >= orderCount ? NONE : order[i];
        }

        private int lockedBy(int step) {
            return locks[step];
        }

        private boolean isGood(int step) {
            return locks[step] == NONE;
        }

        private int firstLocked() {
            for (int step = 0; step < stepCount; step++) {
                if (!isGood(step)) {
                    return step;
                }
            }
            return NONE;
        }

        private int stepBeside(int step, int way) {
            return stepCount > 0 ? Math.floorMod(step + way, stepCount) : 0;
        }

        /** How many steps from this one on, round, are good. */
        private int goodFrom(int step) {
            int many = 0;
            int next = step;
            while (many < stepCount && isGood(next)) {
                many++;
                next = stepBeside(next, 1);
            }
            return many;
        }

        private int longestRunStart() {
            int best = NONE;
            int longest = 0;
            for (int step = 0; step < stepCount; step++) {
                int many = goodFrom(step);
                if (many > longest) {
                    best = step;
                    longest = many;
                }
            }
            return best;
        }

        private int firstCrossing(int bar, int other) {
            for (int step = 0; step < stepCount; step++) {
                if (isGood(step) && barsCross(step, bar, other)) {
                    return step;
                }
            }
            return NONE;
        }

        private boolean barsCross(int step, int bar, int other) {
            int a = plan.barNumber(bar, 0);
            int b = plan.barNumber(bar, 1);
            int c = plan.barNumber(other, 0);
            int d = plan.barNumber(other, 1);
            if (a == c || a == d || b == c || b == d) {
                return false;
            }
            if (!isPlaced(step, a) || !isPlaced(step, b) || !isPlaced(step, c) || !isPlaced(step, d)) {
                return false;
            }
            return reachEachOther(spots.drawnX(step, a), spots.drawnX(step, b),
                            spots.drawnX(step, c), spots.drawnX(step, d))
                    && reachEachOther(spots.drawnY(step, a), spots.drawnY(step, b),
                            spots.drawnY(step, c), spots.drawnY(step, d))
                    && sideOf(step, a, b, c) * sideOf(step, a, b, d) <= 0
                    && sideOf(step, c, d, a) * sideOf(step, c, d, b) <= 0;
        }

        private boolean isPlaced(int step, int joint) {
            return spots.reasonOf(step, joint) == PLACED;
        }

        /** Of bars on one line only this tells whether they meet. */
        private static boolean reachEachOther(int a, int b, int c, int d) {
            return Math.min(a, b) <= Math.max(c, d) && Math.min(c, d) <= Math.max(a, b);
        }

        /** On which side of the line from a to b a joint is drawn: 1 left, -1 right, 0 on it. */
        private int sideOf(int step, int a, int b, int joint) {
            int alongX = spots.drawnX(step, b) - spots.drawnX(step, a);
            int alongY = spots.drawnY(step, b) - spots.drawnY(step, a);
            int offX = spots.drawnX(step, joint) - spots.drawnX(step, a);
            int offY = spots.drawnY(step, joint) - spots.drawnY(step, a);
            return Integer.signum(alongX * offY - alongY * offX);
        }

        private int drawsLarger(int joint, int other, int pin, int m) {
            int answer = 1;
            for (int step = 0; step < stepCount; step++) {
                if (!isGood(step)) {
                    continue;
                }
                if (spots.areUnlike(step, joint, other)) {
                    return NONE;
                }
                if (!spots.isScaled(step, joint, other, pin, m)) {
                    answer = 0;
                }
            }
            return answer;
        }

        private int farFrom(Row row) {
            int far = 0;
            for (int i = 0; i < row.count; i++) {
                boolean missed = i >= stepCount || !isGood(i) || plan.pencil == NONE;
                far += missed ? MISSED_POINT
                        : Math.abs(spots.drawnX(i, plan.pencil) - row.xs[i])
                        + Math.abs(spots.drawnY(i, plan.pencil) - row.ys[i]);
            }
            return far;
        }
    }

    /** The row of squares that the pencil draws; nothing asks for it without a pencil. */
    private static final class Curve {
        private final Spots spots;
        private final int[] locks;
        private final int pencil;

        private Curve(Spots spots, int[] locks, int pencil) {
            this.spots = spots;
            this.locks = locks;
            this.pencil = pencil;
        }

        private boolean isDrawn(int step) {
            return locks[step] == NONE;
        }

        private int squares() {
            int many = 0;
            for (int step = 0; step < locks.length; step++) {
                if (isDrawn(step)
                        && firstAt(spots.drawnX(step, pencil), spots.drawnY(step, pencil)) == step) {
                    many++;
                }
            }
            return many;
        }

        /** The first step at which this square is drawn; NONE. */
        private int firstAt(int x, int y) {
            for (int step = 0; step < locks.length; step++) {
                if (isDrawn(step) && spots.drawnX(step, pencil) == x && spots.drawnY(step, pencil) == y) {
                    return step;
                }
            }
            return NONE;
        }

        private boolean isClosed() {
            for (int step = 0; step < locks.length; step++) {
                if (!isDrawn(step)) {
                    return false;
                }
            }
            return true;
        }

        private int leastOf(boolean ofColumns) {
            int least = EDGE + 1;
            for (int step = 0; step < locks.length; step++) {
                if (isDrawn(step)) {
                    least = Math.min(least, ofColumns ? spots.drawnX(step, pencil) : spots.drawnY(step, pencil));
                }
            }
            return least;
        }

        private int greatestOf(boolean ofColumns) {
            int greatest = -EDGE - 1;
            for (int step = 0; step < locks.length; step++) {
                if (isDrawn(step)) {
                    greatest = Math.max(greatest, ofColumns ? spots.drawnX(step, pencil) : spots.drawnY(step, pencil));
                }
            }
            return greatest;
        }

        private int columns() {
            return squares() == 0 ? 0 : greatestOf(true) - leastOf(true) + 1;
        }

        private int rows() {
            return squares() == 0 ? 0 : greatestOf(false) - leastOf(false) + 1;
        }

        /** The way from a step to the next one, round; NONE, if one of them is not good. */
        private int wayFrom(int step) {
            int next = step + 1 < locks.length ? step + 1 : 0;
            if (!isDrawn(step) || !isDrawn(next)) {
                return NONE;
            }
            return Math.abs(spots.drawnX(next, pencil) - spots.drawnX(step, pencil))
                    + Math.abs(spots.drawnY(next, pencil) - spots.drawnY(step, pencil));
        }

        private int length() {
            int sum = 0;
            for (int step = 0; step < locks.length; step++) {
                sum += Math.max(wayFrom(step), 0);
            }
            return sum;
        }

        private int greatestWayFrom() {
            int best = NONE;
            int greatest = NONE;
            for (int step = 0; step < locks.length; step++) {
                if (wayFrom(step) > greatest) {
                    best = step;
                    greatest = wayFrom(step);
                }
            }
            return best;
        }

        private boolean isLike(boolean mirrorsColumns, boolean mirrorsRows) {
            int columnSum = leastOf(true) + greatestOf(true);
            int rowSum = leastOf(false) + greatestOf(false);
            for (int step = 0; step < locks.length; step++) {
                if (!isDrawn(step)) {
                    continue;
                }
                int x = spots.drawnX(step, pencil);
                int y = spots.drawnY(step, pencil);
                if (firstAt(mirrorsColumns ? columnSum - x : x, mirrorsRows ? rowSum - y : y) == NONE) {
                    return false;
                }
            }
            return true;
        }
    }
}
