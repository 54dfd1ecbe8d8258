import java.math.BigInteger;
import java.util.ArrayList;
import java.util.Arrays;
import java.util.List;

/**
 * The document told again, by other ways than the class takes: places as rows, pasts as whole copies,
 * fences by solving for where pieces meet, winding by cutting pieces until the arrow keeps to a half-plane.
 */
final class Model {
    private int[][] flow = new int[2][6];
    private List<int[]> fence = new ArrayList<>();
    private final List<Object[]> past = new ArrayList<>();
    private final int[][][] slots = new int[4][][];
    private final int[][] sheets = new int[4][];
    private final int[] bits = new int[4];
    private int findings = 0;

    /** The call by its place in the face; booleans are 0 or 1. */
    int call(String name, int... a) {
        int answer = switch (name) {
            case "put" -> put(a[0], a[1], a[2]);
            case "number" -> a[1] < 0 || a[1] > 5 ? Check.BEYOND : flow[a[0]][a[1]];
            case "speed" -> place(a[0], a[1]) ? value(flow[a[2]], a[0], a[1]) : Check.BEYOND;
            case "slope" -> place(a[0], a[1]) && a[2] >= 0 && a[2] <= 3 ? slopes(a[0], a[1])[a[2]] : Check.BEYOND;
            case "back" -> become(new int[][] {times(flow[0], -1), times(flow[1], -1)}, 1);
            case "quarter" -> become(new int[][] {times(seen(flow[1], 0, 1, -1, 0), -1), seen(flow[0], 0, 1, -1, 0)}, 1);
            case "mirror" -> become(new int[][] {times(seen(flow[0], -1, 0, 0, 1), -1), seen(flow[1], -1, 0, 0, 1)}, 1);
            case "move" -> move(a[0], a[1]);
            case "add" -> add(a[0], a[1]);
            case "rests" -> restList().size();
            case "rest" -> a[0] >= 0 && a[0] < restList().size() ? restList().get(a[0])[a[1]] : Check.NONE;
            case "sort" -> !place(a[0], a[1]) ? Check.BEYOND : isRest(a[0], a[1]) ? sortOf(a[0], a[1]) : Check.NONE;
            case "sorts" -> sorts(a[0]);
            case "corner" -> corner(a[0], a[1]);
            case "open" -> open();
            case "simple" -> isSimple() && (a[0] == 0 || area() > 0) ? 1 : 0;
            case "area" -> area();
            case "within" -> !place(a[0], a[1]) ? Check.BEYOND : !isSimple() ? Check.KIND : where(a[0], a[1]);
            case "across" -> across(a[0], false);
            case "turns" -> across(a[0], true);
            case "held" -> held(a[0] == 1);
            case "wind" -> wind();
            case "indexes" -> indexes();
            case "along" -> sumBeyond(a) || a[5] < 0 || a[5] > 9 ? Check.BEYOND : alongAll(a)[a[5]];
            case "falls" -> falls(a);
            case "kept" -> kept();
            case "none" -> none(a[0], a[1], a[2], a[3]);
            case "edge" -> edge();
            case "far" -> !place(a[0], a[1]) || (a[0] == 0 && a[1] == 0) ? Check.BEYOND : formAt(a[0], a[1]) == 0 ? 1 : 0;
            case "keep" -> keep(a[0]);
            case "bring" -> bring(a[0]);
            case "as" -> as(a[0], a[1]);
            case "sheet" -> sheet(a[0], a[1], a[2]);
            case "write" -> write(a[0], a[1], a[2]);
            case "copy" -> copy(a[0], a[1], a[2], a[3], a[4]);
            case "lay" -> lay(a[0]);
            case "undo" -> undo();
            case "told" -> told(a[0]);
            default -> throw new IllegalStateException(name);
        };
        if (answer < -999999) {
            findings++;
        }
        return answer;
    }

    // ---- the flow

    private static boolean place(int x, int y) {
        return x >= -6 && x <= 6 && y >= -6 && y <= 6;
    }

    private static int value(int[] n, int x, int y) {
        int[] powers = {1, x, y, x * x, x * y, y * y};
        int sum = 0;
        for (int i = 0; i < 6; i++) {
            sum += n[i] * powers[i];
        }
        return sum;
    }

    /** Half of the step from one before to one after: exact, as there is no cube. */
    private int[] slopes(int x, int y) {
        int[] answer = new int[4];
        for (int part = 0; part < 2; part++) {
            int[] n = flow[part];
            answer[2 * part] = (value(n, x + 1, y) - value(n, x - 1, y)) / 2;
            answer[2 * part + 1] = (value(n, x, y + 1) - value(n, x, y - 1)) / 2;
        }
        return answer;
    }

    private static int[] times(int[] n, int c) {
        return Arrays.stream(n).map(v -> v * c).toArray();
    }

    /** The numbers that a polynomial of two squares has, from its values alone. */
    private static int[] fromValues(int v00, int v10, int vm0, int v01, int v0m, int v11) {
        int xx = (v10 + vm0) / 2 - v00;
        int yy = (v01 + v0m) / 2 - v00;
        int x = (v10 - vm0) / 2;
        int y = (v01 - v0m) / 2;
        return new int[] {v00, x, y, xx, v11 - v00 - x - y - xx - yy, yy};
    }

    /** The polynomial at (a x + b y, c x + d y). */
    private static int[] seen(int[] n, int a, int b, int c, int d) {
        return fromValues(value(n, 0, 0), value(n, a, c), value(n, -a, -c), value(n, b, d), value(n, -b, -d),
            value(n, a + b, c + d));
    }

    private static int[] seenFrom(int[] n, int a, int b) {
        return fromValues(value(n, a, b), value(n, a + 1, b), value(n, a - 1, b), value(n, a, b + 1), value(n, a, b - 1),
            value(n, a + 1, b + 1));
    }

    private static boolean fits(int[][] f) {
        for (int[] part : f) {
            for (int v : part) {
                if (Math.abs(v) > 4) {
                    return false;
                }
            }
        }
        return true;
    }

    private void remember() {
        past.add(new Object[] {new int[][] {flow[0].clone(), flow[1].clone()}, new ArrayList<>(fence)});
        if (past.size() > 25) {
            past.remove(0);
        }
    }

    private int become(int[][] f, int answer) {
        remember();
        flow = new int[][] {f[0].clone(), f[1].clone()};
        return answer;
    }

    private int put(int part, int m, int v) {
        if (m < 0 || m > 5 || v < -4 || v > 4) {
            return Check.BEYOND;
        }
        remember();
        int was = flow[part][m];
        flow[part][m] = v;
        return was;
    }

    private int move(int a, int b) {
        if (!place(a, b)) {
            return Check.BEYOND;
        }
        int[][] f = {seenFrom(flow[0], a, b), seenFrom(flow[1], a, b)};
        return fits(f) ? become(f, 1) : Check.SIZE;
    }

    private int add(int slot, int c) {
        if (slot < 0 || slot > 3 || c < -4 || c > 4) {
            return Check.BEYOND;
        }
        if (slots[slot] == null) {
            return Check.NONE;
        }
        int[][] f = new int[2][6];
        for (int i = 0; i < 12; i++) {
            f[i / 6][i % 6] = flow[i / 6][i % 6] + c * slots[slot][i / 6][i % 6];
        }
        return fits(f) ? become(f, 1) : Check.SIZE;
    }

    // ---- rests

    private boolean isRest(int x, int y) {
        return value(flow[0], x, y) == 0 && value(flow[1], x, y) == 0;
    }

    private List<int[]> restList() {
        List<int[]> rests = new ArrayList<>();
        for (int x = -6; x <= 6; x++) {
            for (int y = -6; y <= 6; y++) {
                if (isRest(x, y)) {
                    rests.add(new int[] {x, y});
                }
            }
        }
        return rests;
    }

    private int sortOf(int x, int y) {
        int[] s = slopes(x, y);
        int t = s[0] + s[3];
        int d = s[0] * s[3] - s[1] * s[2];
        if (d < 0) {
            return 1;
        }
        if (d > 0 && t * t - 4 * d >= 0) {
            return 2;
        }
        if (d > 0 && t != 0) {
            return 3;
        }
        return d > 0 ? 4 : 5;
    }

    private int sorts(int sort) {
        if (sort < 1 || sort > 5) {
            return Check.BEYOND;
        }
        return (int) restList().stream().filter(r -> sortOf(r[0], r[1]) == sort).count();
    }

    // ---- the fence

    private int corner(int x, int y) {
        if (!place(x, y)) {
            return Check.BEYOND;
        }
        if (!fence.isEmpty() && Arrays.equals(fence.get(fence.size() - 1), new int[] {x, y})) {
            return Check.SIZE;
        }
        if (fence.size() == 8) {
            return Check.FULL;
        }
        remember();
        fence.add(new int[] {x, y});
        return fence.size();
    }

    private int open() {
        remember();
        int had = fence.size();
        fence = new ArrayList<>();
        return had;
    }

    private int[] piece(int k) {
        int[] from = fence.get(k);
        int[] to = fence.get((k + 1) % fence.size());
        return new int[] {from[0], from[1], to[0], to[1]};
    }

    private int area() {
        int sum = 0;
        for (int k = 0; k < fence.size(); k++) {
            int[] p = piece(k);
            // The same sum by trapezes.
            sum += (p[0] - p[2]) * (p[1] + p[3]);
        }
        return sum;
    }

    /**
     * The places that two pieces have in common, as 0 none, 1 just one, 2 more: by solving for the
     * shares of each piece at which they meet.
     */
    private static int common(int[] p, int[] q) {
        int px = p[2] - p[0];
        int py = p[3] - p[1];
        int qx = q[2] - q[0];
        int qy = q[3] - q[1];
        int ox = q[0] - p[0];
        int oy = q[1] - p[1];
        int det = px * qy - py * qx;
        if (det != 0) {
            int s = (ox * qy - oy * qx) * Integer.signum(det);
            int t = (ox * py - oy * px) * Integer.signum(det);
            int one = Math.abs(det);
            return s >= 0 && s <= one && t >= 0 && t <= one ? 1 : 0;
        }
        if (px * oy - py * ox != 0) {
            return 0;
        }
        // In one line: compare the shares of p's line at which q begins and ends.
        int one = px * px + py * py;
        int s = ox * px + oy * py;
        int t = (ox + qx) * px + (oy + qy) * py;
        int low = Math.max(0, Math.min(s, t));
        int high = Math.min(one, Math.max(s, t));
        return low > high ? 0 : low == high ? 1 : 2;
    }

    private boolean isSimple() {
        int n = fence.size();
        if (n < 3) {
            return false;
        }
        for (int i = 0; i < n; i++) {
            for (int k = 0; k < n; k++) {
                if (i == k) {
                    continue;
                }
                if (Arrays.equals(fence.get(i), fence.get(k))) {
                    return false;
                }
            }
        }
        for (int i = 0; i < n; i++) {
            for (int k = 0; k < i; k++) {
                boolean neighbours = i - k == 1 || i - k == n - 1;
                if (common(piece(i), piece(k)) != (neighbours ? 1 : 0)) {
                    return false;
                }
            }
        }
        return true;
    }

    /** A slanting ray that meets no whole place: each meeting with a piece is a true crossing. */
    private int where(int x, int y) {
        int crossings = 0;
        for (int k = 0; k < fence.size(); k++) {
            int[] p = piece(k);
            if (common(p, new int[] {x, y, x, y}) > 0 && onLine(p, x, y)) {
                return 1;
            }
            crossings += common(p, new int[] {x, y, x + 9973, y + 1}) > 0 ? 1 : 0;
        }
        return crossings % 2 == 0 ? 0 : 2;
    }

    private static boolean onLine(int[] p, int x, int y) {
        return (p[2] - p[0]) * (y - p[1]) == (p[3] - p[1]) * (x - p[0]);
    }

    /** Numbers before 1, t, t t of a polynomial along a piece, from its values at t 0, 1 and 2. */
    private static int[] alongPiece(int[] n, int[] p) {
        int dx = p[2] - p[0];
        int dy = p[3] - p[1];
        int v0 = value(n, p[0], p[1]);
        int v1 = value(n, p[2], p[3]);
        int v2 = value(n, p[2] + dx, p[3] + dy);
        int square = (v2 - 2 * v1 + v0) / 2;
        return new int[] {v0, v1 - v0 - square, square};
    }

    /** How many zeros from 0 to 1, by the values at the ends and at the turning point. */
    private static int zeros(int[] f) {
        long c = f[0];
        long b = f[1];
        long a = f[2];
        long end = a + b + c;
        if (a == 0 && b == 0 && c == 0) {
            return 3;
        }
        if (a == 0 || b == 0 || -b * Long.signum(a) < 0 || -b * Long.signum(a) >= 2 * Math.abs(a)) {
            return a == 0 && b == 0 ? 0 : zerosOneWay(c, end);
        }
        // It turns between the ends: from 0 to the turn it goes one way, then the other.
        long turn = Long.signum(a) * Long.signum(4 * a * c - b * b);
        int before = zerosOneWay(c, turn);
        int after = zerosOneWay(turn, end);
        return before + after - (turn == 0 ? 1 : 0);
    }

    private static int zerosOneWay(long from, long to) {
        return Long.signum(from) * Long.signum(to) <= 0 ? 1 : 0;
    }

    private int[] leftAlong(int k) {
        int[] p = piece(k);
        int[] mixed = new int[6];
        for (int m = 0; m < 6; m++) {
            mixed[m] = (p[2] - p[0]) * flow[1][m] - (p[3] - p[1]) * flow[0][m];
        }
        return alongPiece(mixed, p);
    }

    private int acrossSign(int k) {
        int[] f = leftAlong(k);
        return zeros(f) > 0 ? 0 : Integer.signum(f[0]);
    }

    private int across(int k, boolean turns) {
        if (k < 0 || k >= fence.size()) {
            return Check.BEYOND;
        }
        int[] p = piece(k);
        if (p[0] == p[2] && p[1] == p[3]) {
            return Check.SIZE;
        }
        return turns ? zeros(leftAlong(k)) : acrossSign(k);
    }

    private int held(boolean out) {
        if (!isSimple() || area() <= 0) {
            return Check.KIND;
        }
        for (int k = 0; k < fence.size(); k++) {
            if (acrossSign(k) != (out ? -1 : 1)) {
                return 0;
            }
        }
        return 1;
    }

    private int wind() {
        if (fence.size() < 2) {
            return Check.NONE;
        }
        double angle = 0;
        for (int k = 0; k < fence.size(); k++) {
            int[] p = piece(k);
            double turned = turned(bezier(alongPiece(flow[0], p)), bezier(alongPiece(flow[1], p)), 0);
            if (Double.isNaN(turned)) {
                return Check.REST;
            }
            angle += turned;
        }
        double rounds = angle / (2 * Math.PI);
        if (Math.abs(rounds - Math.rint(rounds)) > 1e-6) {
            throw new IllegalStateException("no whole number of rounds: " + rounds);
        }
        return (int) Math.rint(rounds);
    }

    /** Twice the three numbers between which a square keeps from 0 to 1. */
    private static BigInteger[] bezier(int[] f) {
        return new BigInteger[] {BigInteger.valueOf(2L * f[0]), BigInteger.valueOf(2L * f[0] + f[1]),
            BigInteger.valueOf(2L * f[0] + 2L * f[1] + 2L * f[2])};
    }

    private static boolean keepsSign(BigInteger[] f) {
        return f[0].signum() != 0 && f[0].signum() == f[1].signum() && f[0].signum() == f[2].signum();
    }

    /** How far the arrow turns, or no number where it becomes 0: no cut so fine parts them then. */
    private static double turned(BigInteger[] p, BigInteger[] q, int depth) {
        if (keepsSign(p) || keepsSign(q)) {
            BigInteger cross = p[0].multiply(q[2]).subtract(q[0].multiply(p[2]));
            BigInteger dot = p[0].multiply(p[2]).add(q[0].multiply(q[2]));
            return Math.atan2(cross.doubleValue(), dot.doubleValue());
        }
        boolean ends = (p[0].signum() == 0 && q[0].signum() == 0) || (p[2].signum() == 0 && q[2].signum() == 0);
        if (ends || depth > 80) {
            return Double.NaN;
        }
        BigInteger[][] ps = halves(p);
        BigInteger[][] qs = halves(q);
        return turned(ps[0], qs[0], depth + 1) + turned(ps[1], qs[1], depth + 1);
    }

    private static BigInteger[][] halves(BigInteger[] f) {
        BigInteger two = BigInteger.TWO;
        BigInteger four = two.add(two);
        BigInteger midst = f[0].add(f[1].multiply(two)).add(f[2]);
        return new BigInteger[][] {
            {f[0].multiply(four), f[0].add(f[1]).multiply(two), midst},
            {midst, f[1].add(f[2]).multiply(two), f[2].multiply(four)}};
    }

    private int indexes() {
        if (!isSimple()) {
            return Check.KIND;
        }
        int sum = 0;
        boolean blunt = false;
        for (int[] r : restList()) {
            if (where(r[0], r[1]) == 2) {
                int sort = sortOf(r[0], r[1]);
                blunt |= sort == 5;
                sum += sort == 1 ? -1 : 1;
            }
        }
        return blunt ? Check.NONE : sum;
    }

    // ---- sums, boxes, the edge

    private static boolean sumBeyond(int[] a) {
        for (int i = 0; i < 5; i++) {
            if (a[i] < -9 || a[i] > 9) {
                return true;
            }
        }
        return false;
    }

    /** By powers: the sum's slopes and the flow as rows of (power of x, power of y). */
    private int[] alongAll(int[] s) {
        int[][] powers = {{0, 0}, {1, 0}, {0, 1}, {2, 0}, {1, 1}, {0, 2}, {3, 0}, {2, 1}, {1, 2}, {0, 3}};
        int[][] byX = {{s[0], 0, 0}, {2 * s[2], 1, 0}, {s[3], 0, 1}};
        int[][] byY = {{s[1], 0, 0}, {s[3], 1, 0}, {2 * s[4], 0, 1}};
        int[] answer = new int[10];
        for (int part = 0; part < 2; part++) {
            for (int[] term : part == 0 ? byX : byY) {
                for (int m = 0; m < 6; m++) {
                    for (int r = 0; r < 10; r++) {
                        boolean here = powers[r][0] == powers[m][0] + term[1] && powers[r][1] == powers[m][1] + term[2];
                        answer[r] += here ? term[0] * flow[part][m] : 0;
                    }
                }
            }
        }
        return answer;
    }

    private int falls(int[] a) {
        int x = a[5];
        int y = a[6];
        if (sumBeyond(a) || !place(x, y)) {
            return Check.BEYOND;
        }
        int[] n = alongAll(a);
        int[] powers = {1, x, y, x * x, x * y, y * y, x * x * x, x * x * y, x * y * y, y * y * y};
        int sum = 0;
        for (int i = 0; i < 10; i++) {
            sum += n[i] * powers[i];
        }
        return sum;
    }

    /** 5 less the rank, by cross-multiplied rows of numbers as large as they grow. */
    private int kept() {
        BigInteger[][] rows = new BigInteger[5][];
        for (int i = 0; i < 5; i++) {
            int[] unit = new int[5];
            unit[i] = 1;
            rows[i] = Arrays.stream(alongAll(unit)).mapToObj(BigInteger::valueOf).toArray(BigInteger[]::new);
        }
        boolean[] used = new boolean[5];
        int rank = 0;
        for (int column = 9; column >= 0; column--) {
            int pivot = -1;
            for (int i = 0; i < 5; i++) {
                if (!used[i] && rows[i][column].signum() != 0) {
                    pivot = i;
                }
            }
            if (pivot < 0) {
                continue;
            }
            used[pivot] = true;
            rank++;
            for (int i = 0; i < 5; i++) {
                if (!used[i]) {
                    BigInteger first = rows[i][column];
                    for (int m = 0; m < 10; m++) {
                        rows[i][m] = rows[i][m].multiply(rows[pivot][column]).subtract(first.multiply(rows[pivot][m]));
                    }
                }
            }
        }
        return 5 - rank;
    }

    private int none(int a, int b, int c, int d) {
        if (!place(a, b) || !place(c, d) || a >= c || b >= d) {
            return Check.BEYOND;
        }
        boolean above = false;
        boolean below = false;
        for (int x = a; x <= c; x++) {
            for (int y = b; y <= d; y++) {
                int[] s = slopes(x, y);
                above |= s[0] + s[3] > 0;
                below |= s[0] + s[3] < 0;
            }
        }
        return above == below ? 0 : above ? 1 : -1;
    }

    private int formAt(int x, int y) {
        int p = flow[0][3] * x * x + flow[0][4] * x * y + flow[0][5] * y * y;
        int q = flow[1][3] * x * x + flow[1][4] * x * y + flow[1][5] * y * y;
        return x * q - y * p;
    }

    /** By the places where the form goes up and down along y = 1, and the line y = 0. */
    private int edge() {
        int a = flow[1][3];
        int b = flow[1][4] - flow[0][3];
        int c = flow[1][5] - flow[0][4];
        int d = -flow[0][5];
        if (a == 0 && b == 0 && c == 0 && d == 0) {
            return 4;
        }
        int flat = a == 0 ? 1 : 0;
        if (a == 0) {
            if (b == 0) {
                return flat + (c != 0 ? 1 : 0);
            }
            return flat + 1 + Integer.signum(c * c - 4 * b * d);
        }
        // 27 a a times the form at (x, 1), with x = (t - b) / (3 a): t t t + 3 p t + q.
        long p = 3L * a * c - (long) b * b;
        long q = 27L * a * a * d - 9L * a * b * c + 2L * b * b * b;
        if (p == 0 && q == 0) {
            return 1;
        }
        long inside = q * q + 4 * p * p * p;
        return inside > 0 ? 1 : inside == 0 ? 2 : 3;
    }

    // ---- slots, sheets

    private static int kindOf(int[][] f) {
        boolean free = f[0][1] + f[1][2] == 0 && 2 * f[0][3] + f[1][4] == 0 && f[0][4] + 2 * f[1][5] == 0;
        boolean linear = true;
        for (int part = 0; part < 2; part++) {
            for (int m = 3; m < 6; m++) {
                linear &= f[part][m] == 0;
            }
        }
        boolean central = linear && f[0][0] == 0 && f[1][0] == 0;
        return free ? 3 : central ? 2 : linear ? 1 : 0;
    }

    private static int notZero(int[][] f) {
        return (int) (Arrays.stream(f[0]).filter(v -> v != 0).count() + Arrays.stream(f[1]).filter(v -> v != 0).count());
    }

    private int keep(int slot) {
        if (slot < 0 || slot > 3) {
            return Check.BEYOND;
        }
        slots[slot] = new int[][] {flow[0].clone(), flow[1].clone()};
        return kindOf(flow);
    }

    private int bring(int slot) {
        if (slot < 0 || slot > 3) {
            return Check.BEYOND;
        }
        return slots[slot] == null ? Check.NONE : become(slots[slot], kindOf(slots[slot]));
    }

    private int as(int slot, int kind) {
        if (slot < 0 || slot > 3 || kind < 0 || kind > 3) {
            return Check.BEYOND;
        }
        if (slots[slot] == null) {
            return Check.NONE;
        }
        String[] these = {"0", "12", "2", "3"};
        int is = kindOf(slots[slot]);
        boolean fine = kind == 0 || these[kind].indexOf('0' + is) >= 0;
        return fine ? notZero(slots[slot]) : Check.KIND;
    }

    private int sheet(int s, int width, int n) {
        if (s < 0 || s > 3 || (width != 0 && width != 8 && width != 16 && width != 32)) {
            return Check.BEYOND;
        }
        if (n < 0) {
            return Check.SIZE;
        }
        if (n > 16) {
            return Check.BEYOND;
        }
        bits[s] = width;
        sheets[s] = width == 0 ? null : new int[n];
        return width == 0 ? 0 : n;
    }

    private int write(int s, int i, int v) {
        if (s < 0 || s > 3) {
            return Check.BEYOND;
        }
        if (sheets[s] == null) {
            return Check.MISSING;
        }
        if (i < 0 || i >= sheets[s].length) {
            return Check.BEYOND;
        }
        sheets[s][i] = v << (32 - bits[s]) >> (32 - bits[s]);
        return 0;
    }

    private int copy(int s, int from, int t, int to, int n) {
        if (s < 0 || s > 3 || t < 0 || t > 3) {
            return Check.BEYOND;
        }
        if (sheets[s] == null || sheets[t] == null) {
            return Check.MISSING;
        }
        if (bits[s] != bits[t]) {
            return Check.KIND;
        }
        if (from < 0 || to < 0 || n < 0 || (long) from + n > sheets[s].length || (long) to + n > sheets[t].length) {
            return Check.BEYOND;
        }
        int[] old = sheets[s].clone();
        for (int i = 0; i < n; i++) {
            sheets[t][to + i] = old[from + i];
        }
        return n;
    }

    private int lay(int s) {
        if (s < 0 || s > 3) {
            return Check.BEYOND;
        }
        if (sheets[s] == null) {
            return Check.MISSING;
        }
        int[] twelve = Arrays.copyOf(sheets[s], 12);
        for (int v : twelve) {
            if (v < -4 || v > 4) {
                return Check.BEYOND;
            }
        }
        return become(new int[][] {Arrays.copyOf(twelve, 6), Arrays.copyOfRange(twelve, 6, 12)},
            Math.min(12, sheets[s].length));
    }

    @SuppressWarnings("unchecked")
    private int undo() {
        if (past.isEmpty()) {
            return Check.NONE;
        }
        Object[] state = past.remove(past.size() - 1);
        flow = (int[][]) state[0];
        fence = (List<int[]>) state[1];
        return past.size();
    }

    private int told(int what) {
        return switch (what) {
            case 0 -> fence.size();
            case 1 -> notZero(flow);
            case 2 -> (int) Arrays.stream(slots).filter(s -> s != null).count();
            case 3 -> findings;
            default -> Check.BEYOND;
        };
    }
}
