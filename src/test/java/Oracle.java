import java.math.BigDecimal;
import java.math.MathContext;
import java.math.RoundingMode;
import java.util.ArrayList;
import java.util.HashSet;
import java.util.List;
import java.util.Set;
import java.util.function.IntPredicate;
import java.util.function.IntUnaryOperator;

/** The document once more, by other means: tokens, lambdas, and places as numbers of 100 digits. */
final class Oracle {
    private static final MathContext DIGITS = new MathContext(100, RoundingMode.HALF_EVEN);
    private static final BigDecimal TINY = new BigDecimal("1e-45");
    private static final List<String> WORDS = List.of("pin", "wheel", "arm", "slot", "copy", "along");
    private static final List<String> LIMITS = List.of("199 199", "K R", "K 1-99 K 1-99 1", "K 1-99 1 199 1",
            "K K K", "K K 16");

    private record Token(String text, int place) {
    }

    private static final class Fault extends RuntimeException {
        private static final long serialVersionUID = 1L;
        final int kind;
        final int place;

        Fault(int kind, int place) {
            this.kind = kind;
            this.place = place;
        }
    }

    final List<int[]> joints = new ArrayList<>();
    final List<int[]> bars = new ArrayList<>();
    final List<IntPredicate> stops = new ArrayList<>();
    final List<Integer> order = new ArrayList<>();
    int pencil = -1;
    int faultKind;
    int faultPlace = -1;
    int steps = 1;
    int over;
    BigDecimal[][][] places;
    int[][] why;
    int[][] root;
    int[] locks;

    private final List<Token> tokens = new ArrayList<>();
    private final Set<Integer> named = new HashSet<>();
    private int next;

    Oracle(String text) {
        try {
            tokenize(text);
            readAll(text.length());
        } catch (Fault fault) {
            faultKind = fault.kind;
            faultPlace = fault.place;
            return;
        }
        solve();
    }

    // Reading

    private void tokenize(String text) {
        java.util.regex.Matcher m = java.util.regex.Pattern.compile("[0-9]+|[a-z]+|[^ ]", java.util.regex.Pattern.DOTALL)
                .matcher(text);
        while (m.find()) {
            tokens.add(new Token(m.group(), m.start()));
        }
        tokens.add(new Token("", text.length()));
    }

    private Token peek() {
        return tokens.get(Math.min(next, tokens.size() - 1));
    }

    private Token pull() {
        Token token = peek();
        next++;
        return token;
    }

    private boolean accept(String text) {
        if (peek().text().equals(text)) {
            next++;
            return true;
        }
        return false;
    }

    private void demand(String text) {
        if (!accept(text)) {
            throw new Fault(1, peek().place());
        }
    }

    private int number(int least, int most) {
        Token token = pull();
        if (!token.text().matches("[0-9]+")) {
            throw new Fault(1, token.place());
        }
        java.math.BigInteger value = new java.math.BigInteger(token.text());
        if (value.compareTo(java.math.BigInteger.valueOf(least)) < 0
                || value.compareTo(java.math.BigInteger.valueOf(most)) > 0) {
            throw new Fault(2, token.place());
        }
        return value.intValue();
    }

    private int name() {
        int joint = number(0, 15);
        named.add(joint);
        return joint;
    }

    private void differ(int a, int b) {
        if (a == b) {
            throw new Fault(2, tokens.get(next - 1).place());
        }
    }

    private void readAll(int length) {
        boolean wheel = false;
        while (!peek().text().isEmpty()) {
            Token word = pull();
            int kind = WORDS.indexOf(word.text());
            if (kind >= 0) {
                if (joints.size() == 16 || kind == 1 && wheel) {
                    throw new Fault(3, word.place());
                }
                wheel |= kind == 1;
                readJoint(kind);
            } else if (word.text().equals("bar")) {
                if (bars.size() == 8) {
                    throw new Fault(3, word.place());
                }
                int a = name();
                int b = name();
                differ(a, b);
                bars.add(new int[] {a, b, number(1, 999)});
            } else if (word.text().equals("pencil")) {
                if (pencil >= 0) {
                    throw new Fault(3, word.place());
                }
                pencil = name();
            } else if (word.text().equals("stop")) {
                if (stops.size() == 4) {
                    throw new Fault(3, word.place());
                }
                stops.add(choice(new ArrayList<>()));
            } else {
                throw new Fault(1, word.place());
            }
            demand(";");
        }
        if (joints.isEmpty() || named.stream().anyMatch(k -> k >= joints.size())) {
            throw new Fault(4, length);
        }
    }

    private void readJoint(int kind) {
        List<Integer> told = new ArrayList<>();
        told.add(kind);
        int firstName = -1;
        int names = 0;
        for (String limit : LIMITS.get(kind).split(" ")) {
            if (limit.equals("K")) {
                int k = name();
                if (names == 1 && kind != 4) {
                    differ(firstName, k);
                }
                firstName = names == 0 ? k : firstName;
                names++;
                told.add(k);
            } else if (limit.equals("R")) {
                int r = number(1, 9999);
                if (r != 5 && r != 25 && r != 65) {
                    throw new Fault(2, tokens.get(next - 1).place());
                }
                steps = r == 5 ? 12 : r == 25 ? 20 : 36;
                told.add(r);
            } else if (limit.contains("-")) {
                told.add(number(1, 99));
            } else {
                told.add(number(0, Integer.parseInt(limit)));
            }
        }
        joints.add(told.stream().mapToInt(i -> i).toArray());
    }

    private void open(List<String> opened) {
        if (opened.size() == 6) {
            throw new Fault(3, tokens.get(next - 1).place());
        }
        opened.add("open");
    }

    private static void close(List<String> opened) {
        opened.remove(opened.size() - 1);
    }

    private IntPredicate choice(List<String> opened) {
        IntPredicate any = both(opened);
        while (accept("or")) {
            any = any.or(both(opened));
        }
        return any;
    }

    private IntPredicate both(List<String> opened) {
        IntPredicate all = claim(opened);
        while (accept("and")) {
            all = all.and(claim(opened));
        }
        return all;
    }

    private IntPredicate claim(List<String> opened) {
        if (accept("not")) {
            open(opened);
            IntPredicate inner = claim(opened);
            close(opened);
            return inner.negate();
        }
        if (accept("[")) {
            open(opened);
            IntPredicate inner = choice(opened);
            demand("]");
            close(opened);
            return inner;
        }
        IntUnaryOperator left = sum(opened);
        Token sign = pull();
        if (!Set.of("<", ">", "=").contains(sign.text())) {
            throw new Fault(1, sign.place());
        }
        IntUnaryOperator right = sum(opened);
        return step -> {
            int difference = Integer.compare(left.applyAsInt(step), right.applyAsInt(step));
            return "<=>".charAt(difference + 1) == sign.text().charAt(0);
        };
    }

    private IntUnaryOperator sum(List<String> opened) {
        IntUnaryOperator sum = unit(opened);
        while (true) {
            IntUnaryOperator left = sum;
            if (accept("+")) {
                IntUnaryOperator right = unit(opened);
                sum = step -> left.applyAsInt(step) + right.applyAsInt(step);
            } else if (accept("-")) {
                IntUnaryOperator right = unit(opened);
                sum = step -> left.applyAsInt(step) - right.applyAsInt(step);
            } else {
                return sum;
            }
        }
    }

    private IntUnaryOperator unit(List<String> opened) {
        if (accept("x")) {
            int k = name();
            return step -> drawn(step, k, 0);
        }
        if (accept("y")) {
            int k = name();
            return step -> drawn(step, k, 1);
        }
        if (accept("(")) {
            open(opened);
            IntUnaryOperator inner = sum(opened);
            demand(")");
            close(opened);
            return inner;
        }
        int n = number(0, 9999);
        return step -> n;
    }

    // Places

    private Set<Integer> toldBy(int joint) {
        int[] n = joints.get(joint);
        Set<Integer> by = new HashSet<>();
        switch (n[0]) {
            case 1, 3 -> by.add(n[1]);
            case 2 -> by.addAll(List.of(n[1], n[3]));
            case 4 -> {
                by.add(n[1]);
                by.add(n[2]);
                by.add(n[3]);
            }
            case 5 -> by.addAll(List.of(n[1], n[2]));
            default -> {
            }
        }
        return by;
    }

    private void solve() {
        boolean more = true;
        while (more) {
            more = false;
            for (int j = 0; j < joints.size() && !more; j++) {
                if (!order.contains(j) && order.containsAll(toldBy(j))) {
                    order.add(j);
                    more = true;
                }
            }
        }
        for (int j = 0; j < joints.size(); j++) {
            over += order.contains(j) ? 0 : 1 << j;
        }
        places = new BigDecimal[steps][joints.size()][];
        why = new int[steps][joints.size()];
        root = new int[steps][joints.size()];
        locks = new int[steps];
        for (int s = 0; s < steps; s++) {
            java.util.Arrays.fill(why[s], 5);
            for (int j : order) {
                why[s][j] = settle(s, j);
            }
            locks[s] = lock(s);
        }
    }

    private static BigDecimal big(long n) {
        return BigDecimal.valueOf(n);
    }

    private static boolean isZero(BigDecimal n) {
        return n.abs().compareTo(TINY) < 0;
    }

    private static int signOf(BigDecimal n) {
        return isZero(n) ? 0 : n.signum();
    }

    private static BigDecimal rootOf(BigDecimal n) {
        return isZero(n) ? BigDecimal.ZERO : n.sqrt(DIGITS);
    }

    private static boolean isWholeNumber(BigDecimal n) {
        return isZero(n.subtract(n.setScale(0, RoundingMode.HALF_EVEN)));
    }

    boolean isWhole(int s, int j) {
        return isWholeNumber(places[s][j][0]) && isWholeNumber(places[s][j][1]);
    }

    int drawn(int s, int j, int what) {
        BigDecimal n = places[s][j][what];
        return (isWholeNumber(n) ? n.setScale(0, RoundingMode.HALF_EVEN) : n.setScale(0, RoundingMode.FLOOR)).intValueExact();
    }

    private boolean isShifted(int j) {
        return joints.get(j)[0] >= 4;
    }

    private int settle(int s, int j) {
        List<Integer> rough = new ArrayList<>();
        for (int k : toldBy(j)) {
            if (why[s][k] != 0) {
                return 1;
            }
            if (!isWhole(s, k)) {
                rough.add(k);
            }
        }
        if (!isShifted(j) && !rough.isEmpty() || rough.size() > 1 || rough.size() == 1 && isShifted(rough.get(0))) {
            return 2;
        }
        BigDecimal[] place = seek(s, j);
        if (place == null) {
            return 3;
        }
        for (BigDecimal n : place) {
            if (signOf(n.abs().subtract(big(2000))) > 0) {
                return 4;
            }
        }
        places[s][j] = place;
        root[s][j] = rough.isEmpty() ? j : rough.get(0);
        return 0;
    }

    private BigDecimal[] seek(int s, int j) {
        int[] n = joints.get(j);
        BigDecimal[][] at = places[s];
        switch (n[0]) {
            case 0:
                return new BigDecimal[] {big(n[1]), big(n[2])};
            case 1:
                int[] off = wheelPoints(n[2]).get(s);
                return new BigDecimal[] {at[n[1]][0].add(big(off[0])), at[n[1]][1].add(big(off[1]))};
            case 2:
                return arm(at[n[1]], big(n[2]), at[n[3]], big(n[4]), n[5] == 0);
            case 3:
                return slot(at[n[1]], n);
            case 4:
                return new BigDecimal[] {at[n[1]][0].add(at[n[2]][0]).subtract(at[n[3]][0]),
                    at[n[1]][1].add(at[n[2]][1]).subtract(at[n[3]][1])};
            default:
                BigDecimal part = new BigDecimal("0.25").multiply(big(n[3]));
                return new BigDecimal[] {at[n[1]][0].add(at[n[2]][0].subtract(at[n[1]][0]).multiply(part)),
                    at[n[1]][1].add(at[n[2]][1].subtract(at[n[1]][1]).multiply(part))};
        }
    }

    static List<int[]> wheelPoints(int r) {
        List<int[]> points = new ArrayList<>();
        for (int x = -r; x <= r; x++) {
            for (int y = -r; y <= r; y++) {
                if (x * x + y * y == r * r) {
                    points.add(new int[] {x, y});
                }
            }
        }
        points.sort(java.util.Comparator.comparingDouble(p -> {
            double angle = Math.atan2(p[1], p[0]);
            return angle < 0 ? angle + 2 * Math.PI : angle;
        }));
        return points;
    }

    /** By the angle at A: its cosine from the three sides, the sine by its root. */
    private static BigDecimal[] arm(BigDecimal[] a, BigDecimal m, BigDecimal[] b, BigDecimal n, boolean left) {
        BigDecimal dx = b[0].subtract(a[0]);
        BigDecimal dy = b[1].subtract(a[1]);
        BigDecimal d2 = dx.multiply(dx).add(dy.multiply(dy));
        if (isZero(d2)) {
            return null;
        }
        BigDecimal d = rootOf(d2);
        if (signOf(d.subtract(m.add(n))) > 0 || signOf(m.subtract(n).abs().subtract(d)) > 0) {
            return null;
        }
        BigDecimal cos = m.multiply(m).add(d2).subtract(n.multiply(n)).divide(m.multiply(d).multiply(big(2)), DIGITS);
        BigDecimal sin = rootOf(BigDecimal.ONE.subtract(cos.multiply(cos)));
        BigDecimal ux = dx.divide(d, DIGITS);
        BigDecimal uy = dy.divide(d, DIGITS);
        BigDecimal turn = left ? sin : sin.negate();
        return new BigDecimal[] {
            a[0].add(m.multiply(ux.multiply(cos).subtract(uy.multiply(turn)))),
            a[1].add(m.multiply(uy.multiply(cos).add(ux.multiply(turn))))};
    }

    private static BigDecimal[] slot(BigDecimal[] a, int[] n) {
        int told = n[3] == 0 ? 1 : 0;
        BigDecimal off = big(n[4]).subtract(a[told]);
        BigDecimal rest = big((long) n[2] * n[2]).subtract(off.multiply(off));
        if (signOf(rest) < 0) {
            return null;
        }
        BigDecimal[] place = new BigDecimal[2];
        place[told] = big(n[4]);
        BigDecimal way = rootOf(rest);
        place[1 - told] = n[5] == 0 ? a[1 - told].subtract(way) : a[1 - told].add(way);
        return place;
    }

    private int lock(int s) {
        for (int j : order) {
            if (why[s][j] > 1) {
                return 10 * j + why[s][j];
            }
        }
        if (over != 0) {
            return 10 * Integer.numberOfTrailingZeros(over) + 5;
        }
        for (int i = 0; i < stops.size(); i++) {
            if (stops.get(i).test(s)) {
                return 1000 + i;
            }
        }
        return -1;
    }

    boolean good(int s) {
        return locks[s] == -1;
    }

    // Answers

    int side(int s, int j, int what, int v) {
        return why[s][j] != 0 ? Integer.MIN_VALUE : signOf(places[s][j][what].subtract(big(v)));
    }

    private boolean unlike(int s, int a, int b) {
        return !isWhole(s, a) && !isWhole(s, b) && root[s][a] != root[s][b];
    }

    int holds(int s, int bar) {
        int a = bars.get(bar)[0];
        int b = bars.get(bar)[1];
        long l = bars.get(bar)[2];
        if (why[s][a] != 0 || why[s][b] != 0 || unlike(s, a, b)) {
            return -1;
        }
        BigDecimal dx = places[s][a][0].subtract(places[s][b][0]);
        BigDecimal dy = places[s][a][1].subtract(places[s][b][1]);
        return isZero(dx.multiply(dx).add(dy.multiply(dy)).subtract(big(l * l))) ? 1 : 0;
    }

    private long turn(long[] a, long[] b, long[] c) {
        return (b[0] - a[0]) * (c[1] - a[1]) - (b[1] - a[1]) * (c[0] - a[0]);
    }

    private boolean isOn(long[] a, long[] b, long[] c) {
        return turn(a, b, c) == 0 && (c[0] - a[0]) * (c[0] - b[0]) <= 0 && (c[1] - a[1]) * (c[1] - b[1]) <= 0;
    }

    boolean cross(int s, int bar, int other) {
        int[] n = bars.get(bar);
        int[] m = bars.get(other);
        Set<Integer> all = new HashSet<>(List.of(n[0], n[1]));
        all.add(m[0]);
        all.add(m[1]);
        if (all.size() < 4 || all.stream().anyMatch(k -> why[s][k] != 0)) {
            return false;
        }
        long[] a = {drawn(s, n[0], 0), drawn(s, n[0], 1)};
        long[] b = {drawn(s, n[1], 0), drawn(s, n[1], 1)};
        long[] c = {drawn(s, m[0], 0), drawn(s, m[0], 1)};
        long[] d = {drawn(s, m[1], 0), drawn(s, m[1], 1)};
        if (isOn(a, b, c) || isOn(a, b, d) || isOn(c, d, a) || isOn(c, d, b)) {
            return true;
        }
        return (turn(a, b, c) > 0) != (turn(a, b, d) > 0) && turn(a, b, c) != 0 && turn(a, b, d) != 0
                && (turn(c, d, a) > 0) != (turn(c, d, b) > 0) && turn(c, d, a) != 0 && turn(c, d, b) != 0;
    }

    int crossers(int bar, int other) {
        for (int s = 0; s < steps; s++) {
            if (good(s) && cross(s, bar, other)) {
                return s;
            }
        }
        return -1;
    }

    /** Every way in its order, so the first that fits is the first. */
    int[] layers() {
        int n = bars.size();
        boolean[][] meet = new boolean[n][n];
        for (int a = 0; a < n; a++) {
            for (int b = 0; b < n; b++) {
                meet[a][b] = a != b && crossers(a, b) >= 0;
            }
        }
        int clique = 0;
        for (int set = (1 << n) - 1; set > 0; set--) {
            boolean all = true;
            for (int a = 0; a < n; a++) {
                for (int b = 0; b < a; b++) {
                    all &= (set >> a & 1) == 0 || (set >> b & 1) == 0 || meet[a][b];
                }
            }
            if (all && Integer.bitCount(set) >= Integer.bitCount(clique)) {
                clique = set;
            }
        }
        for (int k = 1; k <= n; k++) {
            long ways = 1;
            for (int i = 0; i < n; i++) {
                ways *= k;
            }
            for (long way = 0; way < ways; way++) {
                int digits = fits(way, k, n, meet);
                if (digits > 0) {
                    return new int[] {k, digits, clique};
                }
            }
        }
        return new int[] {0, 0, 0};
    }

    private static int fits(long way, int k, int n, boolean[][] meet) {
        int[] layer = new int[n];
        long rest = way;
        for (int i = n - 1; i >= 0; i--) {
            layer[i] = (int) (rest % k) + 1;
            rest /= k;
        }
        int digits = 0;
        for (int a = 0; a < n; a++) {
            digits = digits * 10 + layer[a];
            for (int b = 0; b < a; b++) {
                if (meet[a][b] && layer[a] == layer[b]) {
                    return 0;
                }
            }
        }
        return digits;
    }

    int[] run() {
        boolean[] twice = new boolean[2 * steps];
        for (int i = 0; i < 2 * steps; i++) {
            twice[i] = good(i % steps);
        }
        int[] best = {-1, 0};
        for (int from = 0; from < steps; from++) {
            for (int many = 1; many <= steps; many++) {
                boolean all = true;
                for (int i = from; i < from + many; i++) {
                    all &= twice[i];
                }
                if (all && many > best[1]) {
                    best = new int[] {from, many};
                }
            }
        }
        return best;
    }

    private List<Integer> square(int s) {
        return List.of(drawn(s, pencil, 0), drawn(s, pencil, 1));
    }

    Set<List<Integer>> squares() {
        Set<List<Integer>> all = new HashSet<>();
        for (int s = 0; s < steps; s++) {
            if (good(s)) {
                all.add(square(s));
            }
        }
        return all;
    }

    /** Of the squares' columns (0) or rows (1) the least and the greatest. */
    private int[] reach(int what) {
        return new int[] {squares().stream().mapToInt(p -> p.get(what)).min().orElse(0),
            squares().stream().mapToInt(p -> p.get(what)).max().orElse(-1)};
    }

    int[] curve() {
        int[] columns = reach(0);
        int[] rows = reach(1);
        boolean closed = true;
        int length = 0;
        for (int s = 0; s < steps; s++) {
            closed &= good(s);
            length += Math.max(0, way(s));
        }
        return new int[] {squares().size(), closed ? 1 : 0, columns[1] - columns[0] + 1, rows[1] - rows[0] + 1, length};
    }

    private int way(int s) {
        int t = (s + 1) % steps;
        if (!good(s) || !good(t)) {
            return -1;
        }
        return Math.abs(square(s).get(0) - square(t).get(0)) + Math.abs(square(s).get(1) - square(t).get(1));
    }

    int[] jump() {
        int[] best = {0, -1};
        for (int s = steps - 1; s >= 0; s--) {
            if (way(s) >= best[0]) {
                best = new int[] {way(s), s};
            }
        }
        return best;
    }

    boolean like(int what) {
        int[] columns = reach(0);
        int[] rows = reach(1);
        Set<List<Integer>> mirrored = new HashSet<>();
        for (List<Integer> p : squares()) {
            int x = what == 1 ? p.get(0) : columns[0] + columns[1] - p.get(0);
            int y = what == 0 ? p.get(1) : rows[0] + rows[1] - p.get(1);
            mirrored.add(List.of(x, y));
        }
        return mirrored.equals(squares());
    }

    int larger(int joint, int other, int pin, int m) {
        int answer = 1;
        for (int s = 0; s < steps; s++) {
            if (!good(s)) {
                continue;
            }
            if (unlike(s, joint, other)) {
                return -1;
            }
            for (int what = 0; what < 2; what++) {
                BigDecimal one = places[s][joint][what].subtract(places[s][pin][what]);
                BigDecimal two = places[s][other][what].subtract(places[s][pin][what]);
                answer = isZero(one.multiply(big(4)).subtract(two.multiply(big(m)))) ? answer : 0;
            }
        }
        return answer;
    }

    int far(List<int[]> row) {
        int far = 0;
        for (int i = 0; i < row.size(); i++) {
            far += i >= steps || !good(i) || pencil < 0 ? 1000
                    : Math.abs(square(i).get(0) - row.get(i)[0]) + Math.abs(square(i).get(1) - row.get(i)[1]);
        }
        return far;
    }

    int[] lots(int from, int n, int seed) {
        long lot = seed & 0xffffffffL;
        int step = from;
        int stopped = 0;
        for (int i = 0; i < n; i++) {
            lot = (lot * 1103515245L + 12345L) & 0xffffffffL;
            int draw = (int) ((lot / 65536 % 32768) % 3);
            int to = (step + draw - 1 + steps) % steps;
            if (draw != 1 && !good(to)) {
                stopped++;
            } else {
                step = to;
            }
        }
        return new int[] {step, stopped};
    }
}
