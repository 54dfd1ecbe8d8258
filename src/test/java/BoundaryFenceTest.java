/** The sentences of promises 15 to 24, one by one: corner, open, simple, area, within, across .. indexes. */
public final class BoundaryFenceTest {
    private static final Sentences S = new Sentences("BoundaryFenceTest");
    private static final int[] SQUARE = {-2, -2, 2, -2, 2, 2, -2, 2};
    private static final int[] SQUARE_WITH_THE_CLOCK = {-2, 2, 2, 2, 2, -2, -2, -2};
    private static final int[] BOW = {-2, -2, 2, 2, 2, -2, -2, 2};
    /** A bow whose halves are unlike, so that its area is above 0. */
    private static final int[] BOW_ABOVE_0 = {-2, -2, 4, -2, 0, 2, 2, 2};
    private static final int[] SOURCE = {0, 1, 0, 0, 0, 0, 0, 0, 1};
    private static final int[] SINK = {0, -1, 0, 0, 0, 0, 0, 0, -1};
    /** P = x x, Q = y: blunt at (0, 0), its one rest. */
    private static final int[] BLUNT = {0, 0, 0, 1, 0, 0, 0, 0, 1};

    public static void main(String[] args) {
        corner();
        cornerRefused();
        open();
        simple();
        area();
        within();
        across();
        turns();
        piecesRefused();
        held();
        wind();
        windOfSquares();
        windRefused();
        indexes();
        S.end(15, 24);
    }

    private static void corner() {
        S.of(15, "A CORNER comes: how many.");
        S.due("corner(0, 0)", 1);
        for (int i = 2; i <= 8; i++) {
            S.due("corner(" + i % 2 + ", " + i / 2 + ")", i);
            S.due("told(0)", i);
        }
        S.anew();
        S.due("corner(-6, -6)", 1);
        S.due("corner(6, 6)", 2);
        S.due("corner(-6, 6)", 3);
        S.due("corner(6, -6)", 4);
        S.due("area()", 12 * 12 - 12 * 12);
    }

    private static void cornerRefused() {
        S.of(15, "BEYOND: it is no PLACE.");
        S.refusedWith("corner(#, 0)", Check.BEYOND, Sentences.outside(-6, 6));
        S.furnish();
        S.refusedWith("corner(0, #)", Check.BEYOND, Sentences.outside(-6, 6));
        S.of(15, "SIZE: it is the latest one.");
        S.make("corner(2, 3)");
        S.refused("corner(2, 3)", Check.SIZE);
        S.due("corner(2, 4)", 2);
        S.due("corner(1, 4)", 3);
        // The first one again is not the latest one.
        S.due("corner(2, 3)", 4);
        S.refused("corner(2, 3)", Check.SIZE);
        S.due("undo()", 3);
        S.refused("corner(1, 4)", Check.SIZE);
        S.due("corner(2, 3)", 4);
        S.due("open()", 4);
        S.due("corner(2, 3)", 1);
        S.due("open()", 1);
        S.due("undo()", 6);
        S.refused("corner(2, 3)", Check.SIZE);
        S.of(15, "FULL: there are 8.");
        S.fence(0, 0, 1, 0, 2, 0, 3, 0, 4, 0, 5, 0, 6, 0);
        S.due("corner(6, 1)", 8);
        S.refused("corner(0, 0)", Check.FULL);
        S.refused("corner(6, 2)", Check.FULL);
        // A place that is none, and the latest one, are told before.
        S.refused("corner(7, 0)", Check.BEYOND);
        S.refused("corner(6, 1)", Check.SIZE);
        S.due("undo()", 8);
        S.due("corner(6, 2)", 8);
        S.due("open()", 8);
        S.due("corner(0, 0)", 1);
    }

    private static void open() {
        S.of(16, "THE FENCE has no corners: how many it had.");
        S.due("open()", 0);
        S.due("open()", 0);
        S.due("corner(1, 1)", 1);
        S.due("open()", 1);
        S.due("told(0)", 0);
        S.due("area()", 0);
        S.due("across(0)", Check.BEYOND);
        S.fence(0, 0, 1, 0, 2, 0, 3, 0, 4, 0, 5, 0, 6, 0, 6, 1);
        S.due("open()", 8);
        S.due("told(0)", 0);
        // What was before does not come back with new corners.
        S.make("corner(0, 0)");
        S.make("corner(2, 0)");
        S.due("area()", 0);
        S.due("across(2)", Check.BEYOND);
    }

    private static void dueSimple(int simple, int left, int... places) {
        S.anew();
        S.fence(places);
        S.due("simple(false)", simple);
        S.due("simple(true)", left);
    }

    private static void simple() {
        S.of(17, "Whether THE FENCE is SIMPLE (left: LEFT): 1, 0.");
        dueSimple(1, 1, SQUARE);
        dueSimple(1, 0, SQUARE_WITH_THE_CLOCK);
        dueSimple(0, 0, BOW);
        dueSimple(0, 0, BOW_ABOVE_0);
        dueSimple(0, 0);
    }

    private static void dueArea(int area, int... places) {
        S.anew();
        S.fence(places);
        S.due("area()", area);
    }

    private static void area() {
        S.of(18, "Twice the area of THE FENCE, above 0 if it goes against the clock");
        dueArea(0);
        dueArea(1, 0, 0, 1, 0, 0, 1);
        dueArea(-1, 0, 0, 0, 1, 1, 0);
        dueArea(288, -6, -6, 6, -6, 6, 6, -6, 6);
        dueArea(-288, -6, -6, -6, 6, 6, 6, 6, -6);
        S.of(18, "(the sum over all PIECES from (a, b) to (c, d) of a d less b c).");
        dueArea(0, 3, 4);
        dueArea(0, 3, 4, -1, 2);
        dueArea(0, BOW);
        dueArea(16, BOW_ABOVE_0);
        dueArea(576, -6, -6, 6, -6, 6, 6, -6, 6, -6, -6, 6, -6, 6, 6, -6, 6);
    }

    private static void dueWithin(String wanted, int y, int... places) {
        S.anew();
        S.fence(places);
        for (int x = -6; x <= 6; x++) {
            S.due("within(" + x + ", " + y + ")", wanted.charAt(x + 6) - '0');
        }
    }

    private static void within() {
        S.of(19, "Where a place is: 0 outside, 1 on a PIECE, 2 inside.");
        for (int[] square : new int[][] {SQUARE, SQUARE_WITH_THE_CLOCK}) {
            dueWithin("0000000000000", -3, square);
            dueWithin("0000111110000", -2, square);
            dueWithin("0000122210000", -1, square);
            dueWithin("0000111110000", 2, square);
            dueWithin("0000000000000", 3, square);
        }
        // All there is: even its far corners are on a piece.
        dueWithin("1111111111111", 6, -6, -6, 6, -6, 6, 6, -6, 6);
        dueWithin("1222222222221", 5, -6, -6, 6, -6, 6, 6, -6, 6);
        // At the height of corners, of a point upward, a point downward and a flat piece.
        int[] comb = {-6, -6, 6, -6, 4, 0, 2, -4, 0, 0, -2, -4, -4, 0};
        dueWithin("0010001000100", 0, comb);
        dueWithin("0222122212220", -4, comb);
        dueWithin("0222222222220", -5, comb);
        dueWithin("1111111111111", -6, comb);
        int[] step = {-4, -4, 4, -4, 4, 4, 2, 4, 2, 0, -4, 0};
        dueWithin("0011111112100", 0, step);
        dueWithin("0000000012100", 1, step);
        // In line with a piece, but before its start or behind its end: upward, downward, flat and slanting.
        int[] crooked = {0, 0, 2, -2, 4, -2, 4, 0, 2, 4, 0, 4, -2, 6, -2, 2};
        dueWithin("0000110000000", 2, -2, 2, -1, 2, -2, 3);
        S.anew();
        S.fence(crooked);
        S.due("simple(true)", 1);
        S.due("within(4, 1)", 0);
        S.due("within(4, -3)", 0);
        S.due("within(-2, 1)", 0);
        S.due("within(-2, 6)", 1);
        S.due("within(5, -2)", 0);
        S.due("within(1, -2)", 0);
        S.due("within(-1, 4)", 2);
        S.due("within(3, 4)", 0);
        S.due("within(3, -3)", 0);
        S.due("within(-1, 1)", 1);
        S.due("within(1, 1)", 2);
        // As near to a slanting piece as a place can be, on either side, whichever way it goes.
        dueNear(2, 0, -6, -6, 6, -6, 6, 5);
        dueNear(2, 0, 6, 5, 6, -6, -6, -6);
        dueNear(0, 2, -6, -6, 6, 5, -6, 5);
        dueNear(0, 2, -6, 5, 6, 5, -6, -6);
        S.of(19, "BEYOND: it is no PLACE.");
        S.furnish();
        S.refusedWith("within(#, 0)", Check.BEYOND, Sentences.outside(-6, 6));
        S.refusedWith("within(0, #)", Check.BEYOND, Sentences.outside(-6, 6));
        S.make("open()");
        // Asked before what the fence is.
        S.refused("within(0, 7)", Check.BEYOND);
        S.of(19, "KIND: THE FENCE is not SIMPLE.");
        S.refused("within(0, 0)", Check.KIND);
        S.fence(0, 0, 3, 0);
        S.refused("within(0, 0)", Check.KIND);
        S.fence(BOW);
        S.refused("within(1, 0)", Check.KIND);
        S.fence(SQUARE_WITH_THE_CLOCK);
        S.due("within(0, 0)", 2);
    }

    /** (5, 4) is just below the line from (-6, -6) to (6, 5), (-5, -5) just above it. */
    private static void dueNear(int below, int above, int... places) {
        S.anew();
        S.fence(places);
        S.due("within(5, 4)", below);
        S.due("within(-5, -5)", above);
        // The same, seen in a mirror.
        int[] seen = places.clone();
        for (int i = 0; i < seen.length; i += 2) {
            seen[i] = -seen[i];
        }
        S.anew();
        S.fence(seen);
        S.due("within(-5, 4)", below);
        S.due("within(5, -5)", above);
    }

    /** What goes across the first piece of a fence with these two ends. */
    private static void dueAcross(int across, int turns, int[] flow, int... ends) {
        S.anew();
        S.flow(flow);
        S.fence(ends);
        S.due("across(0)", across);
        S.due("turns(0)", turns);
    }

    private static final int[] Q_1 = {0, 0, 0, 0, 0, 0, 1};
    private static final int[] Q_X = {0, 0, 0, 0, 0, 0, 0, 1};
    private static final int[] Q_XX = {0, 0, 0, 0, 0, 0, 0, 0, 0, 1};
    private static final int[] Q_XX_LESS_1 = {0, 0, 0, 0, 0, 0, -1, 0, 0, 1};
    private static final int[] Q_XX_LESS_2 = {0, 0, 0, 0, 0, 0, -2, 0, 0, 1};

    private static void across() {
        S.of(20, "ACROSS a PIECE: 1 N is above 0 all along it, both ends too, -1 below 0, else 0.");
        dueAcross(1, 0, Q_1, 0, 0, 4, 0);
        dueAcross(-1, 0, Q_1, 4, 0, 0, 0);
        dueAcross(0, 3, Q_1, 0, 0, 0, 4);
        dueAcross(-1, 0, new int[] {1}, 0, 0, 0, 4);
        dueAcross(1, 0, new int[] {1}, 0, 4, 0, 0);
        // 0 at one end only, at either end.
        dueAcross(0, 1, Q_X, 0, 0, 4, 0);
        dueAcross(0, 1, Q_X, 4, 0, 0, 0);
        dueAcross(1, 0, Q_X, 1, 0, 4, 0);
        dueAcross(1, 0, Q_X, -1, 0, -4, 0);
        // Above 0 at both ends, below 0 between, or only touching 0 there.
        dueAcross(0, 2, Q_XX_LESS_1, -2, 0, 2, 0);
        dueAcross(0, 1, Q_XX, -2, 0, 2, 0);
        dueAcross(0, 2, Q_XX_LESS_2, -2, 0, 2, 0);
        dueAcross(-1, 0, Q_XX_LESS_2, -1, 0, 1, 0);
        dueAcross(1, 0, Q_XX_LESS_2, 2, 0, 6, 0);
        // By (2, 2), where P and Q both have squares: 2 x x + 2 y - 2 x y is 4 t above 0 behind its start.
        dueAcross(0, 1, new int[] {0, 0, 0, 0, 1, 0, 0, 0, 1, 1}, 0, 0, 2, 2);
        dueAcross(1, 0, new int[] {0, 0, 0, 0, 1, 0, 1, 0, 1, 1}, 0, 0, 2, 2);
        dueAcross(-1, 0, new int[] {1, 0, 0, 0, 1, 0, 0, 0, -1, 1}, 0, 0, 2, 2);
        // Nowhere 0, though it turns between the ends or behind them.
        int[][] neverZero = {{1, 0, 0, 1}, {1, 1, 0, 1}, {1, -1, 0, 1}, {1, -3, 0, 4}, {4, 3, 0, 1}, {2, 0, 0, 4}, {4, 0, 0, 1}};
        for (int[] n : neverZero) {
            int[] q = {0, 0, 0, 0, 0, 0, n[0], n[1], 0, n[3]};
            int[] less = {0, 0, 0, 0, 0, 0, -n[0], -n[1], 0, -n[3]};
            for (int x = -6; x < 6; x += 3) {
                dueAcross(1, 0, q, x, 1, x + 3, 1);
                dueAcross(-1, 0, less, x, 1, x + 3, 1);
                dueAcross(-1, 0, q, 6, 1, x, 1);
            }
        }
    }

    private static void turns() {
        S.of(21, "At how many places of a PIECE, both ends too, N is 0");
        dueAcross(0, 2, Q_XX_LESS_1, -1, 0, 1, 0);
        dueAcross(0, 1, Q_XX_LESS_1, -1, 0, 0, 0);
        dueAcross(0, 1, Q_XX_LESS_1, 0, 0, 1, 0);
        dueAcross(0, 1, Q_XX_LESS_1, 0, 0, 6, 0);
        dueAcross(1, 0, Q_XX_LESS_1, 2, 0, 6, 0);
        dueAcross(0, 1, Q_XX, 0, 0, 2, 0);
        dueAcross(0, 1, Q_XX, -2, 0, 0, 0);
        dueAcross(1, 0, Q_XX, -2, 0, -1, 0);
        dueAcross(0, 1, Q_XX_LESS_2, 1, 0, 2, 0);
        // 0 at a half, where it only touches; 0 at a third and at a half.
        dueAcross(0, 1, new int[] {0, 0, 0, 0, 0, 0, 1, -4, 0, 4}, 0, 0, 1, 0);
        dueAcross(0, 2, new int[] {-1, 2, 0, 0, 0, 0, -1, 3, 0, -2}, 0, 0, 1, 0);
        // Twice between the same two places, or once each, near either end.
        dueAcross(0, 2, new int[] {0, 0, 0, 0, 0, 0, 1, -4, 0, 3}, 0, 0, 1, 0);
        dueAcross(0, 2, new int[] {0, 0, 0, 0, 0, 0, 1, 4, 0, 3}, -1, 0, 0, 0);
        dueAcross(0, 2, new int[] {0, 0, 0, 0, 0, 0, -1, 4, 0, -3}, 1, 0, 0, 0);
        dueAcross(0, 1, new int[] {0, 0, 0, 0, 0, 0, 1, -4, 0, 2}, 0, 0, 1, 0);
        dueAcross(0, 1, new int[] {0, 0, 0, 0, 0, 0, 1, -4, 0, 2}, 1, 0, 2, 0);
        dueAcross(1, 0, new int[] {0, 0, 0, 0, 0, 0, 1, -4, 0, 2}, 2, 0, 3, 0);
        dueAcross(1, 0, new int[] {0, 0, 0, 0, 0, 0, 1, -4, 0, 2}, -1, 0, 0, 0);
        S.of(21, "(3: everywhere).");
        dueAcross(0, 3, new int[] {0, 0, 0, 1, 0, 0, 0, 0, 0, 1}, 0, 0, 2, 2);
        dueAcross(0, 3, new int[] {0, 0, 0, 0, 1, 0, 0, 0, 0, 0, 0, 1}, 3, 3, -4, -4);
        dueAcross(0, 3, new int[] {0}, 0, 0, 4, 4);
        dueAcross(0, 3, new int[] {1, 2, 3}, -6, 1, 6, 1);
        dueAcross(0, 3, new int[] {1, 2, 3, 0, 0, 0, 1, 2, 3}, 0, 0, 4, 4);
    }

    private static void piecesRefused() {
        String[][] sentences = {{"across", "BEYOND: no such PIECE."}, {"turns", "As across()."}};
        for (int i = 0; i < 2; i++) {
            String call = sentences[i][0] + "(#)";
            S.of(20 + i, sentences[i][1]);
            S.refusedWith(call, Check.BEYOND, -1, 0, 1);
            S.furnish();
            S.refusedWith(call, Check.BEYOND, Sentences.outside(0, 3));
            S.fence(0, 0, 1, 0, 2, 0, 3, 0, 4, 0, 5, 0, 6, 0, 6, 1);
            S.refusedWith(call, Check.BEYOND, Sentences.outside(0, 7));
            S.make("open()");
            S.make("corner(1, 1)");
            S.refused(call.replace("#", "1"), Check.BEYOND);
        }
        S.of(20, "SIZE: both its ends are one place.");
        refusedAtOnePlace("across(#)");
        S.due("across(1)", -1);
        S.of(21, "As across().");
        refusedAtOnePlace("turns(#)");
        S.due("turns(1)", 0);
    }

    /** A fence of one corner has one piece, from it to itself; so has a last corner that is the first one. */
    private static void refusedAtOnePlace(String call) {
        S.flow(0, 0, 0, 0, 0, 0, 1);
        S.fence(0, 0);
        S.refusedWith(call, Check.SIZE, 0);
        S.fence(1, 1, 3, 1, 1, 1);
        S.refusedWith(call, Check.SIZE, 2);
    }

    private static void dueHeld(int in, int out, int[] flow, int... places) {
        S.anew();
        S.flow(flow);
        S.fence(places);
        S.due("held(false)", in);
        S.due("held(true)", out);
    }

    private static void held() {
        S.of(22, "Whether all ways go in through THE FENCE (out: out): N is above 0 (below 0) all along each PIECE: 1, 0.");
        dueHeld(1, 0, SINK, SQUARE);
        dueHeld(0, 1, SOURCE, SQUARE);
        // Out at the first piece alone, and at the last alone.
        dueHeld(0, 0, SINK, -2, 1, 2, 1, 2, 3, -2, 3);
        dueHeld(0, 0, SINK, 1, -2, 3, -2, 3, 2, 1, 2);
        // One piece lies along the flow; at one corner alone nothing goes in.
        dueHeld(0, 0, SINK, 0, 0, 3, 0, 3, 3, -1, 3);
        dueHeld(0, 0, new int[] {0, -1, 0, 0, 0, 0, 2, 0, -1}, -2, -2, 2, -2, 2, 2, -2, 2);
        S.of(22, "KIND: it is not LEFT.");
        S.flow(SINK);
        S.refused("held(false)", Check.KIND);
        S.fence(SQUARE_WITH_THE_CLOCK);
        S.refused("held(false)", Check.KIND);
        S.refused("held(true)", Check.KIND);
        S.fence(BOW_ABOVE_0);
        S.refused("held(true)", Check.KIND);
        S.fence(-1, 0, 1, 0);
        S.refused("held(false)", Check.KIND);
    }

    private static void dueWind(int wind, int[] flow, int... places) {
        S.anew();
        S.flow(flow);
        S.fence(places);
        S.due("wind()", wind);
    }

    private static void wind() {
        int[] saddle = {0, 1, 0, 0, 0, 0, 0, 0, -1};
        int[] twice = {0, 0, 0, 1, 0, -1, 0, 0, 0, 0, 2};
        S.of(23, "WIND.");
        dueWind(1, SOURCE, SQUARE);
        dueWind(1, SINK, SQUARE);
        dueWind(-1, SOURCE, SQUARE_WITH_THE_CLOCK);
        dueWind(-1, saddle, SQUARE);
        dueWind(2, twice, SQUARE);
        dueWind(-2, twice, SQUARE_WITH_THE_CLOCK);
        // As often around as eight corners go: two rounds of two turns.
        dueWind(4, twice, -2, -2, 2, -2, 2, 2, -2, 2, -2, -2, 2, -2, 2, 2, -2, 2);
        dueWind(0, SOURCE, 1, 1, 4, 1, 4, 4, 1, 4);
        dueWind(0, Q_1, SQUARE);
        // A fence need not be simple, nor have more than two corners; a last piece of no length adds nothing.
        dueWind(0, SOURCE, 1, 1, 4, -2);
        dueWind(1, SOURCE, -2, -2, 2, -2, 2, 2, -2, 2, -2, -2);
        // Corners and pieces on the line at which a round is counted, from above and from below.
        dueWind(1, SOURCE, 3, 0, 0, 3, -3, 0, 0, -3);
        dueWind(-1, SOURCE, 3, 0, 0, -3, -3, 0, 0, 3);
        dueWind(1, SOURCE, 1, 0, 3, 0, 0, 3, -3, 0, 0, -3);
        dueWind(0, SOURCE, 2, 0, 3, 2, 1, 2);
        dueWind(0, SOURCE, 2, 0, 1, -2, 3, -2);
        dueWind(0, new int[] {1, 0, 0, 0, 0, 0, 0, 0, 0, -1}, -1, 1, 1, 1, 0, 3);
        dueWind(0, new int[] {1, 0, 0, 0, 0, 0, 0, 0, 0, 1}, -1, 1, 1, 1, 0, 3);
        // At (0, 0) one piece only touches that line, the other goes through it: Q = x x + y, and less that.
        for (int sign = -1; sign <= 1; sign += 2) {
            int[] flow = {1, 0, 0, 0, 0, 0, 0, 0, sign, sign};
            dueWind(0, flow, 0, 0, 2, 0, 0, 3);
            dueWind(0, flow, 0, 0, 0, 3, 2, 0);
            dueWind(0, flow, 0, 0, -2, 0, 0, -3);
            dueWind(0, flow, 0, 0, 0, -3, 2, 0);
        }
    }

    /** Four rests at (+-2, +-1), each within a fence of its own: an arrow of squares, across slanting pieces. */
    private static void windOfSquares() {
        int[] four = {-4, 0, 0, 1, 0, 0, -1, 0, 0, 0, 0, 1};
        S.of(23, "WIND.");
        for (int x = -2; x <= 2; x += 4) {
            for (int y = -1; y <= 1; y += 2) {
                int index = x * y > 0 ? 1 : -1;
                dueWind(index, four, x - 1, y - 1, x + 1, y - 1, x + 1, y + 1, x - 1, y + 1);
                dueWind(-index, four, x - 1, y - 1, x - 1, y + 1, x + 1, y + 1, x + 1, y - 1);
                dueWind(index, four, x + 1, y, x, y + 1, x - 1, y, x, y - 1);
                dueWind(index, four, x - 1, y - 1, x + 2, y, x - 1, y + 1);
                dueWind(-index, four, x + 2, y - 1, x - 1, y, x + 2, y + 2);
                dueWind(index, four, x, y + 1, x - 2, y - 1, x + 2, y - 1);
            }
        }
        dueWind(0, four, -6, -5, 6, -4, 5, 6, -6, 5);
        dueWind(0, four, 0, -3, 4, -2, 3, 4, 1, 3);
        dueWind(0, four, -1, -3, 1, -3, 1, 3, -1, 3);
        // Two turns around (1, -1): P = (x - 1) (x - 1) - (y + 1) (y + 1), Q = 2 (x - 1) (y + 1), turned and mirrored.
        int[] twice = {0, -2, -2, 1, 0, -1, -2, 2, -2, 0, 2};
        int[] around = {-2, -3, 4, -2, 3, 1, -1, 2};
        dueWind(2, twice, around);
        dueWind(2, twice, 1, -2, 2, -1, 1, 0, 0, -1);
        dueWind(-2, twice, -1, 2, 3, 1, 4, -2, -2, -3);
        dueWind(0, twice, 2, -1, 5, 1, 3, 4);
        // A fence around all the places to which a quarter or a mirror brings the rest.
        S.anew();
        S.flow(twice);
        S.fence(-3, -4, 4, -3, 3, 4, -4, 2);
        String[] acts = {"quarter()", "quarter()", "quarter()", "quarter()", "mirror()", "back()", "quarter()"};
        for (String act : acts) {
            S.due("wind()", 2);
            S.make(act);
        }
        S.due("wind()", 2);
    }

    private static void windRefused() {
        S.of(23, "NONE: there are not two CORNERS.");
        S.refused("wind()", Check.NONE);
        S.make("corner(1, 1)");
        // Told before the rest that is there.
        S.refused("wind()", Check.NONE);
        S.flow(1);
        S.refused("wind()", Check.NONE);
        S.due("corner(1, 2)", 2);
        S.due("wind()", 0);
        S.of(23, "REST: at some place of some PIECE both P and Q are 0.");
        S.fence(0, 0, 1, 0);
        S.refused("wind()", Check.REST);
        int[][] fences = {{0, 0, 4, 0, 4, 4}, {4, 0, 4, 4, 0, 0}, {-1, -1, 2, 2, -2, 2}, {1, 1, -2, 2, -1, -1}, {-1, 0, 1, 0}};
        for (int[] fence : fences) {
            S.anew();
            S.flow(SOURCE);
            S.fence(fence);
            S.refused("wind()", Check.REST);
        }
        // A rest between whole places, at a half and at the root of 2; and beside it none.
        int[] atHalf = {-1, 2, 0, 0, 0, 0, 0, 0, 1};
        dueWind(Check.REST, atHalf, 0, 0, 1, 0, 1, 1);
        dueWind(0, atHalf, 1, 0, 3, 0, 3, 1);
        int[] atRoot = {0, 0, -2, 1, 0, 0, 2, 0, 0, -1};
        dueWind(Check.REST, atRoot, 1, 1, 2, 1, 2, 3);
        dueWind(0, atRoot, 2, 1, 3, 1, 3, 3);
        // P and Q are 0 on one piece, but not at one place.
        dueWind(0, new int[] {-2, 0, 0, 1, 0, 0, -2, 1}, 0, 1, 3, 1);
        // In line with a piece, but behind its end.
        dueWind(0, SOURCE, 1, 0, 3, 0, 3, 2);
    }

    private static void dueIndexes(int indexes, int[] flow, int... places) {
        S.anew();
        S.flow(flow);
        S.fence(places);
        S.due("indexes()", indexes);
    }

    private static void indexes() {
        int[] four = {-4, 0, 0, 1, 0, 0, -1, 0, 0, 0, 0, 1};
        S.of(24, "The sum of INDEXES of all RESTS inside THE FENCE.");
        dueIndexes(0, four, -3, -3, 3, -3, 3, 3, -3, 3);
        dueIndexes(1, four, 0, 0, 3, 0, 3, 3, 0, 3);
        dueIndexes(-1, four, -3, 0, 0, 0, 0, 3, -3, 3);
        dueIndexes(1, SOURCE, SQUARE_WITH_THE_CLOCK);
        // On a piece, at a corner and outside is not inside.
        dueIndexes(0, SOURCE, -1, 0, 1, 0, 0, 1);
        dueIndexes(0, SOURCE, 0, 0, 1, 0, 0, 1);
        dueIndexes(0, SOURCE, 1, 1, 3, 1, 1, 3);
        S.of(24, "KIND: it is not SIMPLE.");
        S.refused("indexes()", Check.KIND);
        S.fence(BOW);
        // Told before the blunt rests of a flow of nothing.
        S.refused("indexes()", Check.KIND);
        S.fence(1, 1, 2, 2);
        S.refused("indexes()", Check.KIND);
        S.of(24, "NONE: one of them is BLUNT.");
        S.flow(BLUNT);
        S.fence(SQUARE);
        S.refused("indexes()", Check.NONE);
        S.fence(SQUARE_WITH_THE_CLOCK);
        S.refused("indexes()", Check.NONE);
        // One that is on a piece or outside is none of them.
        dueIndexes(0, BLUNT, 0, 0, 2, 0, 0, 2);
        dueIndexes(0, BLUNT, -1, 0, 1, 0, 0, 2);
        dueIndexes(0, BLUNT, 1, 1, 2, 1, 1, 2);
    }
}
