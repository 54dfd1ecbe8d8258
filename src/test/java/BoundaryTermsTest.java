/** The sentences of the terms, one by one: findings, flows and rests, the fence, sums, slots, kinds and sheets. */
public final class BoundaryTermsTest {
    private static final Sentences S = new Sentences("BoundaryTermsTest");
    private static final int TERMS = Document.TERMS;

    public static void main(String[] args) {
        findings();
        orderOfFindings();
        findingsChangeNothing();
        flowsAndPlaces();
        rests();
        sorts();
        index();
        fence();
        simpleFences();
        neighbours();
        left();
        wind();
        sums();
        spreadAndEdge();
        slotsAndKinds();
        sheets();
        callsOfOneObject();
        S.end(TERMS, TERMS);
    }

    private static void findings() {
        S.of(TERMS, "FINDINGS are answers below -999999:");
        // The lowest answers that are no findings.
        S.flow(4, 4, 4, 4, 4, 4, 4, 4, 4, 4, 4, 4);
        S.due("falls(-9, -9, -9, -9, -9, 6, 6)", -165528);
        S.due("along(-9, -9, -9, -9, -9, 4)", -288);
        S.fence(-6, -6, -6, 6, 6, 6, 6, -6, -6, -6, -6, 6, 6, 6, 6, -6);
        S.due("area()", -576);
        S.due("told(3)", 0);
        S.of(TERMS, "-1000001 BEYOND");
        S.due("number(false, 6)", -1000001);
        S.of(TERMS, "-1000002 MISSING");
        S.due("lay(0)", -1000002);
        S.of(TERMS, "-1000003 SIZE");
        S.due("sheet(0, 8, -1)", -1000003);
        S.of(TERMS, "-1000004 KIND");
        S.due("within(0, 0)", -1000004);
        S.of(TERMS, "-1000005 FULL");
        S.fence(0, 0, 1, 0, 2, 0, 3, 0, 4, 0, 5, 0, 6, 0, 6, 1);
        S.due("corner(6, 2)", -1000005);
        S.of(TERMS, "-1000006 NONE");
        S.due("bring(0)", -1000006);
        S.of(TERMS, "-1000007 REST.");
        S.fence(0, 0, 1, 0);
        S.due("wind()", -1000007);
    }

    /** Two findings that could be told at once, for every act that has such: the one that is named first is told. */
    private static void orderOfFindings() {
        S.of(TERMS, "Each act tells its findings in the order in which they are asked;");
        S.make("sheet(0, 8, 4)");
        S.make("sheet(1, 16, 4)");
        S.make("write(0, 0, 9)");
        S.make("put(false, 3, 1)");
        S.make("keep(0)");
        S.due("move(7, 0)", Check.BEYOND);
        S.due("add(1, 5)", Check.BEYOND);
        S.due("add(0, 5)", Check.BEYOND);
        S.due("sort(7, 7)", Check.BEYOND);
        S.due("within(7, 0)", Check.BEYOND);
        S.due("as(1, 4)", Check.BEYOND);
        S.due("as(0, 4)", Check.BEYOND);
        S.due("as(1, 2)", Check.NONE);
        S.due("sheet(4, 9, -1)", Check.BEYOND);
        S.due("sheet(0, 9, -1)", Check.BEYOND);
        S.due("write(4, 99, 0)", Check.BEYOND);
        S.due("write(3, 99, 0)", Check.MISSING);
        S.due("copy(3, 0, 4, 0, 1)", Check.BEYOND);
        S.due("copy(0, 0, 3, 0, 99)", Check.MISSING);
        S.due("copy(0, -1, 1, 0, 99)", Check.KIND);
        S.due("lay(2)", Check.MISSING);
        S.due("lay(0)", Check.BEYOND);
        S.anew();
        S.due("corner(0, 0)", 1);
        S.due("wind()", Check.NONE);
        S.due("across(1)", Check.BEYOND);
        S.due("across(0)", Check.SIZE);
        S.due("indexes()", Check.KIND);
        S.due("held(false)", Check.KIND);
        S.fence(0, 0, 1, 0, 2, 0, 3, 0, 4, 0, 5, 0, 6, 0, 6, 1);
        S.due("corner(7, 1)", Check.BEYOND);
        S.due("corner(6, 1)", Check.SIZE);
        S.due("corner(6, 2)", Check.FULL);
    }

    /** Every act that has a finding, and every finding that it has. */
    private static void findingsChangeNothing() {
        S.of(TERMS, "an act that answers a finding changes nothing.");
        S.furnish();
        String[] beyond = {"put(false, 6, 1)", "put(true, 0, 5)", "number(true, -1)", "speed(7, 0, true)", "slope(0, 0, 4)",
            "move(0, -7)", "add(4, 1)", "add(0, 5)", "sort(-7, 0)", "sorts(6)", "corner(7, 0)", "within(0, 7)", "across(4)",
            "turns(-1)", "along(10, 0, 0, 0, 0, 0)", "along(0, 0, 0, 0, 0, 10)", "falls(0, 0, 0, 0, -10, 0, 0)",
            "falls(0, 0, 0, 0, 0, 7, 0)", "none(0, 0, 0, 1)", "far(0, 0)", "keep(4)", "bring(-1)", "as(4, 0)", "as(0, 4)",
            "sheet(4, 8, 1)", "sheet(0, 9, 1)", "sheet(0, 8, 17)", "write(4, 0, 1)", "write(0, 16, 1)",
            "copy(4, 0, 0, 0, 1)", "copy(0, 0, 0, 15, 2)", "lay(4)", "told(4)"};
        for (String call : beyond) {
            S.refused(call, Check.BEYOND);
        }
        S.refused("write(3, 0, 1)", Check.MISSING);
        S.refused("copy(3, 0, 0, 0, 1)", Check.MISSING);
        S.refused("lay(3)", Check.MISSING);
        S.refused("corner(-1, 3)", Check.SIZE);
        S.refused("move(0, 6)", Check.SIZE);
        S.refused("add(0, 4)", Check.SIZE);
        S.refused("sheet(0, 8, -1)", Check.SIZE);
        S.refused("as(2, 3)", Check.KIND);
        S.refused("copy(0, 0, 1, 0, 1)", Check.KIND);
        S.refused("add(1, 1)", Check.NONE);
        S.refused("rest(169, false)", Check.NONE);
        S.refused("sort(0, 0)", Check.NONE);
        S.refused("bring(1)", Check.NONE);
        S.refused("as(3, 0)", Check.NONE);
        S.make("put(false, 0, 0)");
        S.make("put(true, 0, 0)");
        S.make("corner(-2, -2)");
        S.refused("across(4)", Check.SIZE);
        S.refused("turns(4)", Check.SIZE);
        S.refused("within(0, 0)", Check.KIND);
        S.refused("held(true)", Check.KIND);
        S.refused("indexes()", Check.KIND);
        S.make("corner(0, 0)");
        S.refused("wind()", Check.REST);
        S.make("open()");
        S.refused("wind()", Check.NONE);
    }

    private static void flowsAndPlaces() {
        S.of(TERMS, "1. A FLOW has two polynomials P, Q, each with whole NUMBERS -4 to 4 before 1, x, y, x x, x y, y y (0 to 5).");
        for (int part = 0; part < 2; part++) {
            int[] at2And3 = {1, 2, -3, 4, -6, 9};
            for (int m = 0; m < 6; m++) {
                S.anew();
                S.due("put(" + (part == 1) + ", " + m + ", -4)", 0);
                S.due("speed(2, -3, " + (part == 1) + ")", -4 * at2And3[m]);
                S.due("speed(2, -3, " + (part == 0) + ")", 0);
                S.due("put(" + (part == 1) + ", " + m + ", 4)", -4);
                S.refused("put(" + (part == 1) + ", " + m + ", 5)", Check.BEYOND);
                S.refused("put(" + (part == 1) + ", " + m + ", -5)", Check.BEYOND);
            }
        }
        S.of(TERMS, "At a place (x, y) P is the speed of x, Q that of y.");
        S.flow(3, 0, 0, 0, 0, 0, -2);
        S.due("speed(0, 0, false)", 3);
        S.due("speed(0, 0, true)", -2);
        // So the sum x changes by P, the sum y by Q.
        S.due("falls(1, 0, 0, 0, 0, 5, 5)", 3);
        S.due("falls(0, 1, 0, 0, 0, 5, 5)", -2);
        S.of(TERMS, "PLACES are whole, -6 to 6.");
        S.furnish();
        String[] calls = {"speed(#, 6, true)", "speed(-6, #, true)", "slope(6, #, 0)", "move(#, 0)", "sort(#, -6)", "corner(#, 6)",
            "within(6, #)", "falls(0, 0, 0, 0, 0, #, 6)", "far(6, #)"};
        for (String call : calls) {
            S.refusedWith(call, Check.BEYOND, -7, 7);
        }
        S.anew();
        for (int k = -6; k <= 6; k += 12) {
            S.due("speed(" + k + ", " + k + ", false)", 0);
            S.due("sort(" + k + ", " + -k + ")", 5);
            S.due("far(" + k + ", " + k + ")", 1);
            S.due("falls(1, 1, 1, 1, 1, " + k + ", " + k + ")", 0);
            S.due("move(" + k + ", " + -k + ")", 1);
        }
    }

    private static void rests() {
        S.of(TERMS, "A REST is a place at which P and Q are 0.");
        // P = x, Q = y - 1: P alone is 0 at (0, 0), Q alone at (1, 1).
        S.flow(0, 1, 0, 0, 0, 0, -1, 0, 1);
        S.due("rests()", 1);
        S.due("rest(0, false)", 0);
        S.due("rest(0, true)", 1);
        S.due("sort(0, 0)", Check.NONE);
        S.due("sort(1, 1)", Check.NONE);
        S.due("sort(0, 1)", 2);
        S.of(TERMS, "Its TABLE: how P changes by x, P by y, Q by x, Q by y (the slopes there).");
        S.flow(-1, 0, 2, 1, 0, 0, 0, 3, 0, 0, 4, -1);
        S.due("slope(1, 0, 0)", 2);
        S.due("slope(1, 0, 1)", 2);
        S.due("slope(1, 0, 2)", 3);
        S.due("slope(1, 0, 3)", 4);
        S.of(TERMS, "With T the sum of the first and the last, D the first times the last less the others' product:");
        dueSort(5, 1, 2, 2, 4);
        dueSort(1, 2, 4, 1, 1);
        dueSort(2, 4, 2, 1, 2);
        dueSort(4, 2, -4, 2, -2);
        // The slopes at the rest count, not those at (0, 0): P = x x - 1, Q = x y, at (1, 0).
        S.anew();
        S.flow(-1, 0, 0, 1, 0, 0, 0, 0, 0, 0, 1);
        S.due("sort(1, 0)", 2);
        S.due("sort(-1, 0)", 2);
    }

    /** The sort of (0, 0) under a flow with this table there. */
    private static void dueSort(int sort, int px, int py, int qx, int qy) {
        S.anew();
        S.flow(0, px, py, 0, 0, 0, 0, qx, qy);
        S.due("sort(0, 0)", sort);
    }

    private static void sorts() {
        S.of(TERMS, "SORTS: 1 SADDLE, D below 0;");
        dueSort(1, 0, 1, 1, 0);
        dueSort(1, 1, 0, 0, -1);
        dueSort(1, 4, 3, 3, 2);
        dueSort(1, -2, 3, 3, -4);
        S.of(TERMS, "2 NODE, D above 0 and T T not below 4 D;");
        // D is 1 and T is 2; T T is 4 D; T T just above 4 D.
        dueSort(2, 1, 0, 0, 1);
        dueSort(2, -1, 1, 0, -1);
        dueSort(2, 3, -1, 1, 1);
        dueSort(2, 3, 1, 1, 1);
        dueSort(2, -3, 1, 1, -2);
        S.of(TERMS, "3 SPIRAL, D above 0, T T below 4 D and T not 0;");
        dueSort(3, 1, -1, 1, 1);
        dueSort(3, 3, -2, 1, 1);
        dueSort(3, -3, 2, -1, -1);
        dueSort(3, 0, -1, 1, 1);
        dueSort(3, 0, -1, 1, -1);
        S.of(TERMS, "4 EVEN, D above 0 and T 0;");
        dueSort(4, 0, -1, 1, 0);
        dueSort(4, 1, -2, 1, -1);
        dueSort(4, -3, 4, -4, 3);
        S.of(TERMS, "5 BLUNT, D 0.");
        dueSort(5, 0, 0, 0, 0);
        dueSort(5, 1, 0, 0, 0);
        dueSort(5, 0, 4, 0, 0);
        dueSort(5, 2, -4, -1, 2);
    }

    private static void dueIndexes(int indexes, int px, int py, int qx, int qy) {
        S.anew();
        S.flow(0, px, py, 0, 0, 0, 0, qx, qy);
        S.fence(-1, -1, 1, -1, 0, 1);
        S.due("indexes()", indexes);
    }

    private static void index() {
        S.of(TERMS, "INDEX: -1 of a SADDLE, 1 of a NODE, SPIRAL, EVEN;");
        dueIndexes(-1, 1, 0, 0, -1);
        dueIndexes(1, 1, 0, 0, 1);
        dueIndexes(1, -1, 0, 0, -1);
        dueIndexes(1, 1, -1, 1, 1);
        dueIndexes(1, 0, -1, 1, 0);
        S.of(TERMS, "a BLUNT one has none.");
        dueIndexes(Check.NONE, 1, 0, 0, 0);
        dueIndexes(Check.NONE, 0, 0, 0, 0);
    }

    private static void fence() {
        S.of(TERMS, "2. THE FENCE has up to 8 CORNERS (PLACES) and as many PIECES: k from corner k to the next one (the last to the "
            + "first).");
        S.flow(0, 0, 0, 0, 0, 0, 1);
        for (int n = 1; n <= 8; n++) {
            S.due("corner(" + (n % 2 == 0 ? n - 7 : n - 3) + ", " + n % 2 + ")", n);
            S.due("turns(" + n + ")", Check.BEYOND);
            // The last piece goes to the first corner: to itself, to the left, or to the right.
            int step = -2 - (n % 2 == 0 ? n - 7 : n - 3);
            S.due("across(" + (n - 1) + ")", n == 1 ? Check.SIZE : Integer.signum(step));
        }
        S.due("corner(0, 6)", Check.FULL);
        S.due("across(0)", -1);
        S.due("across(1)", 1);
        S.of(TERMS, "ACROSS a PIECE from (a, b) by (c, d): N is c times Q less d times P; it tells how it goes to the left.");
        // By (3, 2): N is 3 Q - 2 P; P = 1 + x, Q = 1, from (0, 0): 3 - 2 (1 + 3 t) is 0 at a sixth.
        S.flow(1, 1, 0, 0, 0, 0, 1);
        S.fence(0, 0, 3, 2);
        S.due("across(0)", 0);
        S.due("turns(0)", 1);
        S.flow(1, 0, 0, 0, 0, 0, 1);
        S.due("across(0)", 1);
        S.due("across(1)", -1);
        S.flow(3, 0, 0, 0, 0, 0, 2);
        S.due("turns(0)", 3);
        S.flow(2, 0, 0, 0, 0, 0, 1);
        S.due("across(0)", -1);
        S.due("across(1)", 1);
    }

    private static void dueSimple(int simple, int... places) {
        S.anew();
        S.fence(places);
        S.due("simple(false)", simple);
    }

    private static void simpleFences() {
        S.of(TERMS, "THE FENCE is SIMPLE, if it has three CORNERS at least,");
        dueSimple(0);
        dueSimple(0, 0, 0);
        dueSimple(0, 0, 0, 3, 1);
        dueSimple(1, 0, 0, 3, 1, 1, 3);
        S.of(TERMS, "no two alike,");
        dueSimple(0, 0, 0, 4, 0, 4, 4, 0, 0);
        dueSimple(0, 0, 0, 3, 0, 0, 0, 0, 3);
        dueSimple(0, 0, 0, 4, 1, 6, 0, 6, 3, 4, 1, 2, 3);
        dueSimple(1, 0, 0, 4, 1, 6, 0, 6, 3, 4, 2, 2, 3);
        S.of(TERMS, "no two PIECES have a place in common");
        // Crossing at a whole place, between such, and by a hair; a corner on a piece; a piece along a piece.
        dueSimple(0, -2, -2, 2, 2, 2, -2, -2, 2);
        dueSimple(0, 0, 0, 3, 0, 3, 3, 1, -1);
        dueSimple(0, -6, -6, 6, 5, 6, 6, -5, -6);
        dueCrossingByAHair();
        dueSimple(0, 0, 0, 4, 0, 4, 4, 2, 0, 0, 4);
        dueSimple(0, 2, 0, 0, 4, 0, 0, 4, 0, 4, 4);
        dueSimple(0, 0, 0, 6, 0, 6, 3, 4, 3, 4, 0, 2, 0, 2, 3, 0, 3);
        dueSimple(0, 0, 0, 2, 0, 4, 2, 2, 4, 2, -2);
        // Near but not touching; in one line but apart.
        dueSimple(1, 0, 0, 4, 0, 4, 4, 2, 1, 0, 4);
        dueSimple(1, 0, 0, 2, 0, 2, 2, 4, 2, 4, 0, 6, 0, 6, 4, 0, 4);
        dueSimple(1, -6, -6, 6, 5, 6, 6, -6, -5);
    }

    /** From (-5, -5) to (5, 4) a piece crosses that from (-6, -6) to (6, 5) as narrowly as whole places can. */
    private static void dueCrossingByAHair() {
        int[] fence = {-6, -6, 6, 5, 6, 6, -6, 6, -5, -5, 5, 4, 5, -6};
        int n = fence.length / 2;
        for (int way = 0; way < 4; way++) {
            int[] turned = new int[fence.length];
            for (int i = 0; i < n; i++) {
                int from = way < 2 ? i : n - 1 - i;
                turned[2 * i] = (way % 2 == 0 ? 1 : -1) * fence[2 * from];
                turned[2 * i + 1] = fence[2 * from + 1];
            }
            dueSimple(0, turned);
        }
        // So near, but not across.
        dueSimple(1, -6, -6, 6, 5, 6, 6, -5, -5);
    }

    private static void neighbours() {
        S.of(TERMS, "but neighbours their corner,");
        dueSimple(1, 0, 0, 1, 0, 0, 1);
        // A corner in the midst of a side, also where the fence begins.
        dueSimple(1, 0, 0, 2, 0, 4, 0, 0, 4);
        dueSimple(1, 2, 0, 4, 0, 0, 4, 0, 0);
        S.of(TERMS, "and neighbours that alone.");
        // Folded back at a corner in the midst, at the last one and at the first one; all in one line.
        dueSimple(0, 0, 0, 4, 0, 2, 0, 2, 4);
        dueSimple(0, 0, 0, 2, 0, -2, 0, 0, 4);
        dueSimple(0, 4, 4, 0, 4, 4, 0, 2, 2);
        dueSimple(0, 0, 0, 4, 0, 4, 4, 6, 0);
        dueSimple(0, 0, 0, 6, 0, 4, 4, 4, 0);
        dueSimple(0, 0, 0, 1, 0, 3, 0);
        dueSimple(0, 0, 0, 3, 3, 1, 1);
        dueSimple(0, 1, 0, 3, 0, 0, 0);
    }

    private static void left() {
        S.of(TERMS, "It is LEFT, if it is SIMPLE and goes round against the clock.");
        int[][] fences = {{0, 0, 1, 0, 0, 1}, {0, 0, 0, 1, 1, 0}, {-2, -2, 4, -2, 0, 2, 2, 2}, {0, 0, 3, 0}};
        int[] wanted = {1, 0, 0, 0};
        for (int i = 0; i < fences.length; i++) {
            S.anew();
            S.fence(fences[i]);
            S.due("simple(true)", wanted[i]);
            S.due("held(true)", wanted[i] == 1 ? 0 : Check.KIND);
        }
    }

    private static void wind() {
        S.of(TERMS, "WIND: how often (P, Q), seen as an arrow, goes around against the clock, as a place goes once along all PIECES");
        int[] square = {-2, -2, 2, -2, 2, 2, -2, 2};
        int[] turned = {-2, 2, 2, 2, 2, -2, -2, -2};
        S.flow(0, 1, 0, 0, 0, 0, 0, 0, 1);
        S.fence(square);
        S.due("wind()", 1);
        S.make("quarter()");
        S.due("wind()", 1);
        S.make("back()");
        S.due("wind()", 1);
        S.of(TERMS, "(below 0: with the clock).");
        S.flow(0, 1, 0, 0, 0, 0, 0, 0, -1);
        S.fence(square);
        S.due("wind()", -1);
        S.fence(turned);
        S.due("wind()", 1);
        S.make("mirror()");
        S.due("wind()", 1);
    }

    private static void sums() {
        S.of(TERMS, "3. SUMS are a x + b y + c x x + d x y + e y y with whole numbers a to e (-9 to 9).");
        S.flow(1, 0, 0, 0, 0, 0, 1);
        // P = Q = 1 at (2, 3): the slopes by x and y together.
        S.due("falls(9, 0, 0, 0, 0, 2, 3)", 9);
        S.due("falls(0, -9, 0, 0, 0, 2, 3)", -9);
        S.due("falls(0, 0, 9, 0, 0, 2, 3)", 36);
        S.due("falls(0, 0, 0, -9, 0, 2, 3)", -45);
        S.due("falls(0, 0, 0, 0, 9, 2, 3)", 54);
        S.refusedWith("falls(#, 0, 0, 0, 0, 2, 3)", Check.BEYOND, -10, 10);
        S.of(TERMS, "ALONG a flow a SUM changes by (its slope by x) P + (its slope by y) Q, a polynomial with NUMBERS before 1, x, y, "
            + "x x, x y, y y, x x x, x x y, x y y, y y y (0 to 9);");
        // x x along P = m-th of 1, x, y, x x, x y, y y: 2 x times that; y y along Q likewise.
        int[] timesX = {1, 3, 4, 6, 7, 8};
        int[] timesY = {2, 4, 5, 7, 8, 9};
        for (int m = 0; m < 6; m++) {
            S.anew();
            S.make("put(false, " + m + ", 1)");
            S.make("put(true, " + m + ", -1)");
            for (int r = 0; r < 10; r++) {
                S.due("along(0, 0, 1, 0, 0, " + r + ")", r == timesX[m] ? 2 : 0);
                S.due("along(0, 0, 0, 0, 1, " + r + ")", r == timesY[m] ? -2 : 0);
                S.due("along(0, 0, 0, 1, 0, " + r + ")", r == timesY[m] ? 1 : r == timesX[m] ? -1 : 0);
                S.due("along(3, 2, 0, 0, 0, " + r + ")", r == m ? 1 : 0);
            }
        }
        S.of(TERMS, "it is KEPT if all of these are 0.");
        // x y is kept along P = x, Q = -y; with a number before x x only x x y of its change is not 0.
        S.flow(0, 1, 0, 0, 0, 0, 0, 0, -1);
        S.due("kept()", 1);
        S.make("put(false, 3, 1)");
        S.due("along(0, 0, 0, 1, 0, 7)", 1);
        S.due("along(0, 0, 0, 1, 0, 4)", 0);
        S.due("kept()", 0);
    }

    private static void spreadAndEdge() {
        S.of(TERMS, "SPREAD is the slope of P by x and that of Q by y together (a whole number before 1, x, y each).");
        // Before 1, x and y: each from P alone, from Q alone, and both against one another.
        int[][] parts = {{0, 1}, {0, 0, 0, 1}, {0, 0, 0, 0, 1}, {0, 0, 0, 0, 0, 0, 0, 0, 1}, {0, 0, 0, 0, 0, 0, 0, 0, 0, 0, 1},
            {0, 0, 0, 0, 0, 0, 0, 0, 0, 0, 0, 1}};
        for (int[] part : parts) {
            S.anew();
            S.flow(part);
            S.due("none(1, 1, 2, 2)", 1);
            S.make("back()");
            S.due("none(1, 1, 2, 2)", -1);
        }
        S.anew();
        S.flow(0, 3, 0, 1, 4, 0, 0, 0, -3, 0, -2, -2);
        S.due("none(1, 1, 2, 2)", 0);
        S.due("keep(0)", 3);
        S.of(TERMS, "AT THE EDGE: the form x Q2 - y P2, P2 and Q2 being what P and Q have before x x, x y, y y;");
        // What stands before 1, x, y does not count; each of the six others does.
        S.flow(4, -4, 3, 0, 0, 0, -4, 4, -3);
        S.due("edge()", 4);
        S.due("far(1, 2)", 1);
        for (int i = 0; i < 6; i++) {
            S.anew();
            S.make("put(" + (i >= 3) + ", " + (i % 3 + 3) + ", 1)");
            S.due("far(1, 2)", 0);
            S.due("edge()", new int[] {2, 2, 1, 1, 2, 2}[i]);
        }
        S.of(TERMS, "LINES through (0, 0) on which it is 0.");
        // x x y - 2 y y y: y = 0, and two lines that go through no other place.
        S.flow(0, 0, 0, 0, 0, 2, 0, 0, 0, 0, 1);
        S.due("edge()", 3);
        S.due("far(1, 0)", 1);
        S.due("far(3, 2)", 0);
        S.due("far(0, 1)", 0);
    }

    private static void dueKind(int kind, int... flow) {
        S.anew();
        S.flow(flow);
        S.due("keep(0)", kind);
    }

    private static void slotsAndKinds() {
        S.of(TERMS, "4. SLOTS 0 to 3 keep flows, of a KIND:");
        S.due("keep(0)", 3);
        S.due("keep(3)", 3);
        S.due("told(2)", 2);
        S.refusedWith("keep(#)", Check.BEYOND, -1, 4);
        S.of(TERMS, "0 FLOW,");
        dueKind(0, 0, 0, 0, 0, 0, 0, 0, 0, 0, 0, 0, 1);
        dueKind(0, 0, 0, 0, 1);
        S.of(TERMS, "1 LINEAR under FLOW (no number before x x, x y, y y),");
        dueKind(1, 1, 1);
        dueKind(1, 0, 0, 0, 0, 0, 0, -1, 0, 1);
        for (int i = 0; i < 12; i++) {
            int[] flow = {1, 2, 3, 0, 0, 0, 1, 2, 3, 0, 0, 0};
            flow[i] = 4;
            dueKind(i % 6 < 3 ? 1 : 0, flow);
        }
        S.of(TERMS, "2 CENTRAL under LINEAR (none before 1 either),");
        dueKind(2, 0, 1);
        dueKind(2, 0, 1, 2, 0, 0, 0, 0, 3, 4);
        dueKind(1, 1, 1, 2, 0, 0, 0, 0, 3, 4);
        dueKind(1, 0, 1, 2, 0, 0, 0, 1, 3, 4);
        S.of(TERMS, "3 FREE under FLOW (SPREAD is 0 everywhere):");
        dueKind(3, 1, 2, 3, 1, 2, 3, 4, -4, -2, 4, -2, -1);
        dueKind(0, 1, 2, 3, 1, 2, 3, 4, -4, -1, 4, -2, -1);
        dueKind(0, 1, 2, 3, 1, 2, 3, 4, -4, -2, 4, -1, -1);
        dueKind(0, 1, 2, 3, 1, 2, 3, 4, -4, -2, 4, -2, -2);
        // 0 at some places only: SPREAD s + u x + v y with any of these not 0.
        for (int i = 0; i < 27; i++) {
            int s = i % 3 - 1;
            int u = i / 3 % 3 - 1;
            int v = i / 9 - 1;
            boolean squares = u != 0 || v != 0;
            dueKind(squares ? 0 : s != 0 ? 2 : 3, 0, s, 0, 0, v, 0, 0, 0, 0, 0, u);
        }
        S.of(TERMS, "the last of these that it is.");
        // FREE and LINEAR, FREE and CENTRAL, nothing at all; CENTRAL and so LINEAR and so FLOW.
        dueKind(3, 1, 2, 0, 0, 0, 0, 0, 0, -2);
        dueKind(3, 0, 2, 1, 0, 0, 0, 0, 1, -2);
        dueKind(3);
        dueKind(2, 0, 0, 0, 0, 0, 0, 0, 0, 4);
    }

    private static void sheets() {
        S.of(TERMS, "SHEETS 0 to 3 are rows of up to 16 numbers of 8, 16 or 32 bits,");
        for (int s = 0; s < 4; s++) {
            int bits = new int[] {8, 16, 32, 8}[s];
            S.due("sheet(" + s + ", " + bits + ", 16)", 16);
            S.due("write(" + s + ", 15, " + s + ")", 0);
            S.due("write(" + s + ", 16, " + s + ")", Check.BEYOND);
        }
        S.due("copy(0, 15, 3, 0, 1)", 1);
        S.due("sheet(4, 8, 1)", Check.BEYOND);
        S.of(TERMS, "or MISSING (all, at first).");
        for (int s = 0; s < 4; s++) {
            S.due("lay(" + s + ")", Check.MISSING);
        }
    }

    /** An object answers rightly up to its last call. */
    private static void callsOfOneObject() {
        S.of(TERMS, "An object is used for at most 512 calls after it has been made; what later calls answer is free.");
        for (int i = 0; i < 511; i++) {
            S.make("told(4)");
        }
        S.due("told(3)", 511);
        S.anew();
        for (int i = 0; i < 486; i++) {
            S.make("put(false, 1, " + i % 5 + ")");
        }
        for (int i = 24; i >= 0; i--) {
            S.due("undo()", i);
        }
        S.due("number(false, 1)", 460 % 5);
    }
}
