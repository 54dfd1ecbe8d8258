/** The sentences of promises 25 to 30, one by one: along, falls, kept, none, edge, far. */
public final class BoundarySumsTest {
    private static final Sentences S = new Sentences("BoundarySumsTest");
    private static final int[] ALL_4 = {4, 4, 4, 4, 4, 4, 4, 4, 4, 4, 4, 4};

    public static void main(String[] args) {
        along();
        falls();
        kept();
        none();
        noneRefused();
        edge();
        far();
        S.end(25, 30);
    }

    private static void dueAlong(String sum, int... numbers) {
        for (int m = 0; m < 10; m++) {
            S.due("along(" + sum + ", " + m + ")", numbers[m]);
        }
    }

    /** A call with five numbers of a sum is refused where one of them, whichever, is too far from 0. */
    private static void sumRefused(String before, String behind) {
        for (int i = 0; i < 5; i++) {
            StringBuilder sum = new StringBuilder();
            for (int k = 0; k < 5; k++) {
                sum.append(k == i ? "#" : "9").append(k < 4 ? ", " : "");
            }
            S.refusedWith(before + sum + behind, Check.BEYOND, Sentences.outside(-9, 9));
        }
    }

    private static void along() {
        S.of(25, "NUMBER m of what a SUM changes by ALONG the flow.");
        dueAlong("9, -9, 9, -9, 9", 0, 0, 0, 0, 0, 0, 0, 0, 0, 0);
        S.flow(ALL_4);
        // (9 + 18 x + 9 y) + (9 + 9 x + 18 y), times 4 (1 + x + y + x x + x y + y y).
        dueAlong("9, 9, 9, 9, 9", 72, 180, 180, 180, 288, 180, 108, 216, 216, 108);
        dueAlong("-9, -9, -9, -9, -9", -72, -180, -180, -180, -288, -180, -108, -216, -216, -108);
        dueAlong("0, 0, 0, 0, 0", 0, 0, 0, 0, 0, 0, 0, 0, 0, 0);
        S.anew();
        S.flow(1, 0, 0, 0, 0, 0, 0, 0, 0, 0, 0, 1);
        // P = 1, Q = y y: 1 + 4 x + 8 y and (2 + 8 x + 10 y) y y.
        dueAlong("1, 2, 2, 8, 5", 1, 4, 8, 0, 0, 2, 0, 0, 8, 10);
        S.of(25, "BEYOND: a number is not -9 to 9");
        S.furnish();
        sumRefused("along(", ", 0)");
        S.of(25, "or m not 0 to 9.");
        S.furnish();
        S.refusedWith("along(9, -9, 9, -9, 9, #)", Check.BEYOND, Sentences.outside(0, 9));
    }

    private static void falls() {
        S.of(26, "What a SUM changes by at a place.");
        S.flow(ALL_4);
        // As far from 0 as it comes, and far above what is a finding.
        S.due("falls(9, 9, 9, 9, 9, 6, 6)", 2 * 171 * 484);
        S.due("falls(-9, -9, -9, -9, -9, 6, 6)", -2 * 171 * 484);
        S.due("falls(9, 9, 9, 9, 9, 0, 0)", 72);
        S.due("falls(9, 9, 9, 9, 9, -6, 6)", (9 - 108 + 54 + 9 - 54 + 108) * 4 * (1 + 36));
        S.due("falls(1, 2, 3, 4, 5, 1, -1)", ((1 + 6 - 4) + (2 + 4 - 10)) * 4 * (1 + 1));
        S.due("falls(0, 0, 0, 0, 0, -6, -6)", 0);
        S.of(26, "BEYOND: a number");
        S.furnish();
        sumRefused("falls(", ", 0, 0)");
        S.of(26, "or it is no PLACE.");
        S.furnish();
        S.refusedWith("falls(9, -9, 9, -9, 9, #, 0)", Check.BEYOND, Sentences.outside(-6, 6));
        S.refusedWith("falls(9, -9, 9, -9, 9, 0, #)", Check.BEYOND, Sentences.outside(-6, 6));
    }

    private static void dueKept(int kept, int... flow) {
        S.anew();
        S.flow(flow);
        S.due("kept()", kept);
    }

    private static void kept() {
        S.of(27, "How many SUMS that are KEPT there are, of which none is made of others (by fractions): 0 to 5.");
        S.due("kept()", 5);
        // x alone changes: y and y y are kept; and so with x for y, and with x - y, x - 3 y for it.
        dueKept(2, 1);
        dueKept(2, 0, 0, 0, 0, 0, 0, 4, -4, 4, -4, 4, -4);
        dueKept(2, 3, 1, -2, 4, 4, -1, 3, 1, -2, 4, 4, -1);
        dueKept(2, 3, 0, -3, 0, 0, 3, 1, 0, -1, 0, 0, 1);
        // x x + y y; x y; 3 x x - 2 y y; x - y y, which is none by squares alone.
        dueKept(1, 0, 0, -1, 0, 0, 0, 0, 1);
        dueKept(1, 0, 1, 0, 0, 0, 0, 0, 0, -1);
        dueKept(1, 0, 0, 2, 0, 0, 0, 0, 3);
        dueKept(1, 0, 0, 2, 0, 0, 0, 1);
        // All at once: P and Q times x or y are still turned as x x + y y wants it.
        dueKept(1, 0, 0, -1, 0, -2, -3, 0, 1, 0, 2, 3);
        dueKept(0, 0, 0, -1, 0, -2, -3, 0, 1, 0, 2, 4);
        dueKept(0, 0, 1, 0, 0, 0, 0, 0, 0, 1);
        dueKept(0, ALL_4_BUT_ONE);
        // What was asked before does not count.
        S.anew();
        S.flow(0, 0, 0, 0, 0, 1);
        S.due("along(0, 0, 0, 9, 0, 9)", 9);
        S.flow(0, 0, 0, 0, 0, 0, 1);
        S.due("kept()", 2);
        S.due("kept()", 2);
    }

    private static final int[] ALL_4_BUT_ONE = {4, 4, 4, 4, 4, 4, 4, 4, 4, 4, 4, 3};

    private static void dueNone(int none, String box, int... flow) {
        S.anew();
        S.flow(flow);
        S.due("none(" + box + ")", none);
    }

    private static void none() {
        S.of(28, "Whether SPREAD keeps its sign in a box from (a, b) to (c, d)");
        dueNone(1, "-6, -6, 6, 6", 0, 1);
        dueNone(-1, "-6, -6, 6, 6", 0, 0, 0, 0, 0, 0, 0, 0, -1);
        // SPREAD 2 x + 1 is 0 between whole places; so is 2 y - 1.
        dueNone(0, "-1, 0, 0, 1", 0, 1, 0, 1);
        dueNone(1, "0, 0, 1, 1", 0, 1, 0, 1);
        dueNone(-1, "-2, 0, -1, 1", 0, 1, 0, 1);
        dueNone(0, "0, 0, 1, 1", 0, 0, 0, 0, 0, 0, 0, 0, -1, 0, 0, 1);
        dueNone(1, "0, 1, 1, 2", 0, 0, 0, 0, 0, 0, 0, 0, -1, 0, 0, 1);
        // x + y is of two signs though it is so at two opposite corners alone; so is x - y at the other two.
        int[] both = {0, 0, 0, 0, 1, 0, 0, 0, 0, 0, 1};
        int[] less = {0, 0, 0, 0, -1, 0, 0, 0, 0, 0, 1};
        dueNone(0, "-1, -1, 1, 1", both);
        dueNone(0, "-1, -1, 1, 1", less);
        // Of another sign at one corner of the four alone, whichever: x + y, x - y and y - x.
        int[] swapped = {0, 0, 0, 0, 1, 0, 0, 0, 0, 0, -1};
        dueNone(0, "-2, 1, 3, 4", both);
        dueNone(0, "-4, -3, 2, -1", both);
        dueNone(0, "1, -4, 3, 2", less);
        dueNone(0, "-3, -1, 0, 2", less);
        dueNone(0, "0, 1, 2, 4", swapped);
        dueNone(0, "0, -1, 2, 1", swapped);
        S.of(28, "(0 may be in it, but not everywhere): 1 above, -1 below, 0 else.");
        dueNone(0, "-6, -6, 6, 6");
        dueNone(0, "-6, -6, 6, 6", 0, 3, 0, 0, 0, 0, 0, 0, -3);
        // 2 x is 0 on a side, x + y and x - y at one corner: each at either end.
        dueNone(1, "0, -6, 6, 6", 0, 0, 0, 1);
        dueNone(-1, "-6, -6, 0, 6", 0, 0, 0, 1);
        dueNone(0, "-1, -6, 1, 6", 0, 0, 0, 1);
        dueNone(1, "-2, 2, 3, 4", both);
        dueNone(-1, "-4, -3, -2, 2", both);
        dueNone(1, "2, -2, 4, 2", less);
        dueNone(-1, "-4, 2, 2, 4", less);
        dueNone(0, "2, -2, 4, 3", less);
    }

    private static void noneRefused() {
        S.of(28, "BEYOND: a corner is no PLACE");
        S.furnish();
        S.refusedWith("none(#, 0, 6, 6)", Check.BEYOND, Sentences.outside(-6, 6));
        S.refusedWith("none(0, #, 6, 6)", Check.BEYOND, Sentences.outside(-6, 6));
        S.refusedWith("none(-6, -6, #, 6)", Check.BEYOND, Sentences.outside(-6, 6));
        S.refusedWith("none(-6, -6, 6, #)", Check.BEYOND, Sentences.outside(-6, 6));
        S.of(28, "a is not below c");
        S.furnish();
        S.refused("none(1, 1, 1, 2)", Check.BEYOND);
        S.refused("none(2, 1, 1, 2)", Check.BEYOND);
        S.refused("none(6, -6, -6, 6)", Check.BEYOND);
        S.due("none(1, 1, 2, 2)", 1);
        S.of(28, "or b not below d.");
        S.furnish();
        S.refused("none(1, 2, 2, 2)", Check.BEYOND);
        S.refused("none(1, 2, 2, 1)", Check.BEYOND);
        S.refused("none(-6, 6, 6, -6)", Check.BEYOND);
        S.due("none(1, 1, 2, 2)", 1);
    }

    /** A flow whose form is a x x x + b x x y + c x y y + d y y y, with something before 1, x, y too. */
    private static void form(int a, int b, int c, int d) {
        S.anew();
        S.flow(4, -3, 2, 0, 0, -d, 1, 2, 3, a, b, c);
    }

    private static void dueEdge(int edge, int a, int b, int c, int d) {
        form(a, b, c, d);
        S.due("edge()", edge);
    }

    private static void edge() {
        S.of(29, "How many LINES AT THE EDGE there are: 0 to 3;");
        // One line three times, and each way to have one line alone.
        dueEdge(1, 4, 0, 0, 0);
        dueEdge(1, 0, 0, 0, -4);
        dueEdge(1, 1, 3, 3, 1);
        dueEdge(1, 1, 0, 1, 0);
        dueEdge(1, 0, 1, 0, 1);
        dueEdge(1, 1, 0, 0, 1);
        // One of two lines twice.
        dueEdge(2, 0, 1, 0, 0);
        dueEdge(2, 0, 0, 1, 0);
        dueEdge(2, 1, 2, 1, 0);
        dueEdge(2, 0, 1, 2, 1);
        dueEdge(2, 1, 1, -1, -1);
        dueEdge(2, 4, 0, -3, 1);
        // Three lines: at whole slopes, with x or y 0, and at the roots of 2.
        dueEdge(3, 1, 0, -1, 0);
        dueEdge(3, 0, 1, 1, 0);
        dueEdge(3, 0, -2, 0, 1);
        dueEdge(3, 1, 0, -3, 1);
        dueEdge(3, 4, 0, -4, 1);
        S.of(29, "4 if the form is 0 everywhere.");
        dueEdge(4, 0, 0, 0, 0);
        S.anew();
        S.flow(0, 0, 0, 1, 2, 0, 0, 0, 0, 0, 1, 2);
        S.due("edge()", 4);
        S.make("put(false, 5, 1)");
        S.due("edge()", 1);
        S.anew();
        S.due("edge()", 4);
    }

    private static void far() {
        S.of(30, "Whether the form AT THE EDGE is 0 on the line through (0, 0) and (x, y): 1, 0.");
        S.due("far(-6, 5)", 1);
        form(1, 0, -1, 0);
        for (int k : new int[] {-6, -1, 1, 6}) {
            S.due("far(0, " + k + ")", 1);
            S.due("far(" + k + ", " + k + ")", 1);
            S.due("far(" + k + ", " + -k + ")", 1);
            S.due("far(" + k + ", 0)", 0);
            S.due("far(" + k + ", " + (k - Integer.signum(k)) + ")", 0);
        }
        // P2 = x x + 2 x y, Q2 = x y + 2 y y: x Q2 and y P2 are the same.
        S.anew();
        S.flow(0, 0, 0, 1, 2, 0, 0, 0, 0, 0, 1, 2);
        S.due("far(1, 1)", 1);
        S.due("far(-5, 6)", 1);
        S.make("put(true, 5, 1)");
        S.due("far(1, 1)", 0);
        S.due("far(1, 0)", 1);
        form(0, 0, 0, 4);
        S.due("far(6, 0)", 1);
        S.due("far(-6, 1)", 0);
        S.of(30, "BEYOND: (x, y) is no PLACE");
        S.furnish();
        S.refusedWith("far(#, 1)", Check.BEYOND, Sentences.outside(-6, 6));
        S.refusedWith("far(1, #)", Check.BEYOND, Sentences.outside(-6, 6));
        S.of(30, "or (0, 0).");
        S.refused("far(0, 0)", Check.BEYOND);
        S.furnish();
        S.refused("far(0, 0)", Check.BEYOND);
        S.due("far(0, 1)", 0);
        S.due("far(1, 0)", 1);
    }
}
