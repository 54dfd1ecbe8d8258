/** Promises 25 to 30: along, falls, kept, none, edge, far. */
public final class SumsTest {
    private static final Check CHECK = new Check("SumsTest");

    public static void main(String[] args) {
        along();
        falls();
        sumsBeyond();
        kept();
        none();
        edge();
        far();
        CHECK.end();
    }

    private static final int[] MIXED = {1, -2, 3, 4, -3, 2, -1, 2, -4, 1, 3, -2};

    private static void along() {
        // P = 1 + x x, Q = x y; the sum x: P; y: Q; x x: 2 x P; x y: y P + x Q; y y: 2 y Q.
        FlowPlane plane = Check.flow(1, 0, 0, 1, 0, 0, 0, 0, 0, 0, 1, 0);
        int[][] sums = {{1, 0, 0, 0, 0}, {0, 1, 0, 0, 0}, {0, 0, 1, 0, 0}, {0, 0, 0, 1, 0}, {0, 0, 0, 0, 1}};
        int[][] due = {
            {1, 0, 0, 1, 0, 0, 0, 0, 0, 0},
            {0, 0, 0, 0, 1, 0, 0, 0, 0, 0},
            {0, 2, 0, 0, 0, 0, 2, 0, 0, 0},
            {0, 0, 1, 0, 0, 0, 0, 2, 0, 0},
            {0, 0, 0, 0, 0, 0, 0, 0, 2, 0}};
        for (int i = 0; i < 5; i++) {
            for (int m = 0; m < 10; m++) {
                int[] s = sums[i];
                CHECK.due("along " + i + ", " + m, plane.along(s[0], s[1], s[2], s[3], s[4], m), due[i][m]);
            }
        }
        // P = Q = y y: y y y comes from x y and y y.
        FlowPlane other = Check.flow(0, 0, 0, 0, 0, 1, 0, 0, 0, 0, 0, 1);
        CHECK.due("y y y", other.along(0, 0, 0, 3, -9, 9), 3 - 18);
        CHECK.due("x y y", other.along(0, 0, 5, 3, -9, 8), 10 + 3);
        CHECK.due("y y", other.along(7, -9, 5, 3, -9, 5), -2);
    }

    private static void falls() {
        FlowPlane plane = Check.flow(MIXED);
        int[][] sums = {{1, 2, 3, 4, 5}, {-9, 9, -9, 9, -9}, {0, 0, 0, 0, 0}, {9, 9, 9, 9, 9}};
        int[] xs = {0, 1, 0, -6, 6, 3};
        int[] ys = {0, 0, 1, 6, 6, -2};
        for (int[] s : sums) {
            for (int i = 0; i < xs.length; i++) {
                int x = xs[i];
                int y = ys[i];
                int[] powers = {1, x, y, x * x, x * y, y * y, x * x * x, x * x * y, x * y * y, y * y * y};
                int want = 0;
                for (int m = 0; m < 10; m++) {
                    want += powers[m] * plane.along(s[0], s[1], s[2], s[3], s[4], m);
                }
                CHECK.due("falls", plane.falls(s[0], s[1], s[2], s[3], s[4], x, y), want);
            }
        }
        FlowPlane sink = Check.flow(0, -1, 0, 0, 0, 0, 0, 0, -1);
        CHECK.due("falls of a sink", sink.falls(0, 0, 1, 0, 1, 3, 4), -50);
    }

    private static void sumsBeyond() {
        FlowPlane plane = Check.flow(MIXED);
        int[] wrong = {-10, 10, Integer.MIN_VALUE, Integer.MAX_VALUE};
        for (int v : wrong) {
            for (int i = 0; i < 5; i++) {
                int[] s = new int[5];
                s[i] = v;
                CHECK.due("along beyond", plane.along(s[0], s[1], s[2], s[3], s[4], 0), Check.BEYOND);
                CHECK.due("falls beyond", plane.falls(s[0], s[1], s[2], s[3], s[4], 0, 0), Check.BEYOND);
            }
            CHECK.due("along m beyond", plane.along(0, 0, 0, 0, 0, v), Check.BEYOND);
            CHECK.due("falls x beyond", plane.falls(0, 0, 0, 0, 0, v, 0), Check.BEYOND);
            CHECK.due("falls y beyond", plane.falls(0, 0, 0, 0, 0, 0, v), Check.BEYOND);
        }
        CHECK.due("along m -1", plane.along(0, 0, 0, 0, 0, -1), Check.BEYOND);
        CHECK.due("falls x 7", plane.falls(0, 0, 0, 0, 0, 7, 0), Check.BEYOND);
        CHECK.due("falls y -7", plane.falls(0, 0, 0, 0, 0, 0, -7), Check.BEYOND);
    }

    private static void dueKept(String what, int kept, int... flow) {
        CHECK.due("kept of " + what, Check.flow(flow).kept(), kept);
    }

    private static void kept() {
        dueKept("nothing", 5, 0);
        dueKept("a ring: x x + y y", 1, 0, 0, -1, 0, 0, 0, 0, 1);
        dueKept("a saddle: x y", 1, 0, 1, 0, 0, 0, 0, 0, 0, -1);
        dueKept("a source", 0, 0, 1, 0, 0, 0, 0, 0, 0, 1);
        dueKept("one way: y, y y", 2, 1);
        dueKept("Q is 0: y, y y", 2, 3, 1, -2, 4, 4, -1);
        dueKept("P is Q: x - y and its square", 2, 3, 1, -2, 4, 4, -1, 3, 1, -2, 4, 4, -1);
        dueKept("P is 2 Q: x - 2 y and its square", 2, 2, 0, 0, 4, 0, 0, 1, 0, 0, 2);
        dueKept("x - y y is kept: P = 2 y, Q = 1", 1, 0, 0, 2, 0, 0, 0, 1);
        dueKept("a ring slowed by x", 1, 0, 0, 0, 0, -1, 0, 0, 0, 0, 1);
        dueKept("all that is", 0, MIXED);
        dueKept("a spiral", 0, 0, 1, -1, 0, 0, 0, 0, 1, 1);
    }

    private static void none() {
        // Spread 1: everywhere above 0.
        FlowPlane plane = Check.flow(0, 1);
        CHECK.due("above", plane.none(-6, -6, 6, 6), 1);
        plane.back();
        CHECK.due("below", plane.none(-6, -6, 6, 6), -1);
        FlowPlane free = Check.flow(0, 1, 0, 0, 0, 0, 0, 0, -1);
        CHECK.due("0 everywhere", free.none(-6, -6, 6, 6), 0);
        // Spread 2 x: P = x x.
        FlowPlane tilt = Check.flow(0, 0, 0, 1);
        CHECK.due("0 on a side", tilt.none(0, -6, 6, 6), 1);
        CHECK.due("0 on the other side", tilt.none(-6, -6, 0, 6), -1);
        CHECK.due("0 within", tilt.none(-1, -6, 6, 6), 0);
        CHECK.due("not 0", tilt.none(1, 0, 2, 1), 1);
        // Spread x + y from P = x y / Q = x y: y + x.
        FlowPlane both = Check.flow(0, 0, 0, 0, 1, 0, 0, 0, 0, 0, 1, 0);
        CHECK.due("0 at one corner", both.none(-1, 1, 3, 4), 1);
        CHECK.due("0 at the other corner", both.none(-4, -3, -1, 1), -1);
        CHECK.due("0 at other corners only", both.none(-2, -2, 2, 2), 0);
        FlowPlane less = Check.flow(0, 0, 0, 0, 1, 0, 0, 0, 0, 0, -1, 0);
        CHECK.due("y - x at a corner", less.none(0, 2, 2, 4), 1);
        CHECK.due("y - x across", less.none(0, 1, 2, 4), 0);
        CHECK.due("a is c", plane.none(1, 1, 1, 2), Check.BEYOND);
        CHECK.due("b is d", plane.none(1, 2, 2, 2), Check.BEYOND);
        CHECK.due("a above c", plane.none(2, 1, 1, 2), Check.BEYOND);
        CHECK.due("b above d", plane.none(1, 2, 2, 1), Check.BEYOND);
        CHECK.due("a beyond", plane.none(-7, 0, 1, 1), Check.BEYOND);
        CHECK.due("b beyond", plane.none(0, -7, 1, 1), Check.BEYOND);
        CHECK.due("c beyond", plane.none(0, 0, 7, 1), Check.BEYOND);
        CHECK.due("d beyond", plane.none(0, 0, 1, 7), Check.BEYOND);
        for (int wild : Check.WILD) {
            CHECK.due("a wild", plane.none(wild, 0, 1, 1), Check.BEYOND);
            CHECK.due("b wild", plane.none(0, wild, 1, 1), Check.BEYOND);
            CHECK.due("c wild", plane.none(0, 0, wild, 1), Check.BEYOND);
            CHECK.due("d wild", plane.none(0, 0, 1, wild), Check.BEYOND);
        }
    }

    /** The form from its four numbers before x x x, x x y, x y y, y y y. */
    private static FlowPlane form(int a, int b, int c, int d) {
        return Check.flow(4, -3, 2, 0, 0, -d, 1, 2, 3, a, b, c);
    }

    private static void edge() {
        CHECK.due("0 everywhere", form(0, 0, 0, 0).edge(), 4);
        CHECK.due("0 everywhere, with squares", Check.flow(0, 0, 0, 1, 2, 0, 0, 0, 0, 0, 1, 2).edge(), 4);
        CHECK.due("x x x", form(1, 0, 0, 0).edge(), 1);
        CHECK.due("y y y", form(0, 0, 0, 1).edge(), 1);
        CHECK.due("x x y", form(0, 1, 0, 0).edge(), 2);
        CHECK.due("x y y", form(0, 0, -3, 0).edge(), 2);
        CHECK.due("x x y + x y y", form(0, 1, 1, 0).edge(), 3);
        CHECK.due("x x x - x y y", form(1, 0, -1, 0).edge(), 3);
        CHECK.due("x x x + x y y", form(1, 0, 1, 0).edge(), 1);
        CHECK.due("y y y + x x y", form(0, 1, 0, 1).edge(), 1);
        CHECK.due("y y y - 2 x x y", form(0, -2, 0, 1).edge(), 3);
        CHECK.due("(x + y) three times", form(1, 3, 3, 1).edge(), 1);
        CHECK.due("(x + y) twice, x - y", form(1, 1, -1, -1).edge(), 2);
        CHECK.due("x x x + y y y", form(1, 0, 0, 1).edge(), 1);
        CHECK.due("x x x - 3 x y y + y y y", form(1, 0, -3, 1).edge(), 3);
        CHECK.due("x (x + y) twice", form(1, 2, 1, 0).edge(), 2);
    }

    private static void far() {
        FlowPlane lines = form(1, 0, -1, 0);
        for (int x = -6; x <= 6; x++) {
            for (int y = -6; y <= 6; y++) {
                if (x != 0 || y != 0) {
                    CHECK.due("far " + x + ", " + y, lines.far(x, y), x == 0 || x == y || x == -y ? 1 : 0);
                }
            }
        }
        CHECK.due("far of nothing", new FlowPlane().far(1, 2), 1);
        CHECK.due("far of y y y", form(0, 0, 0, 2).far(-5, 0), 1);
        CHECK.due("far of y y y", form(0, 0, 0, 2).far(-5, 1), 0);
        CHECK.due("far (0, 0)", lines.far(0, 0), Check.BEYOND);
        CHECK.due("far 7", lines.far(7, 7), Check.BEYOND);
        CHECK.due("far -7", lines.far(0, -7), Check.BEYOND);
        for (int wild : Check.WILD) {
            CHECK.due("far wild", lines.far(wild, 0), Check.BEYOND);
            CHECK.due("far wild", lines.far(0, wild), Check.BEYOND);
        }
    }
}
