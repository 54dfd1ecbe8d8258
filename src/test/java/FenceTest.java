/** Promises 15 to 24: corner, open, simple, area, within, across, turns, held, wind, indexes. */
public final class FenceTest {
    private static final Check CHECK = new Check("FenceTest");
    private static final int[] SQUARE = {-2, -2, 2, -2, 2, 2, -2, 2};
    private static final int[] SQUARE_WITH_THE_CLOCK = {-2, 2, 2, 2, 2, -2, -2, -2};
    private static final int[] BOW = {-2, -2, 2, 2, 2, -2, -2, 2};

    public static void main(String[] args) {
        cornerAndOpen();
        simpleFences();
        fencesThatAreNotSimple();
        areas();
        within();
        acrossAndTurns();
        acrossRefused();
        held();
        windOfPlainFlows();
        windMeetsRests();
        windAtCorners();
        indexes();
        CHECK.end();
    }

    private static FlowPlane fenced(int... places) {
        FlowPlane plane = new FlowPlane();
        Check.setFence(plane, places);
        return plane;
    }

    private static void cornerAndOpen() {
        FlowPlane plane = new FlowPlane();
        CHECK.due("open of none", plane.open(), 0);
        CHECK.due("corner beyond", plane.corner(7, 0), Check.BEYOND);
        CHECK.due("corner beyond", plane.corner(0, -7), Check.BEYOND);
        CHECK.due("corner at (0, 0) first", plane.corner(0, 0), 1);
        CHECK.due("the same again", plane.corner(0, 0), Check.SIZE);
        for (int i = 1; i < 8; i++) {
            CHECK.due("corner " + i, plane.corner(i % 2 * 6, -6), i + 1);
        }
        CHECK.due("told(0)", plane.told(0), 8);
        // BEYOND before SIZE before FULL.
        CHECK.due("beyond when full", plane.corner(-7, 0), Check.BEYOND);
        CHECK.due("the latest when full", plane.corner(6, -6), Check.SIZE);
        CHECK.due("full", plane.corner(1, 1), Check.FULL);
        CHECK.due("full changes nothing", plane.told(0), 8);
        for (int wild : Check.WILD) {
            CHECK.due("corner wild", plane.corner(wild, 0), Check.BEYOND);
            CHECK.due("corner wild", plane.corner(0, wild), Check.BEYOND);
        }
        CHECK.due("open", plane.open(), 8);
        CHECK.due("told(0)", plane.told(0), 0);
        CHECK.due("the latest of before is no corner now", plane.corner(6, -6), 1);
    }

    private static void dueSimple(String what, int simple, int left, int... places) {
        FlowPlane plane = fenced(places);
        CHECK.due(what + ": simple", plane.simple(false), simple);
        CHECK.due(what + ": left", plane.simple(true), left);
    }

    private static void simpleFences() {
        dueSimple("square", 1, 1, SQUARE);
        dueSimple("square with the clock", 1, 0, SQUARE_WITH_THE_CLOCK);
        dueSimple("triangle", 1, 1, 0, 0, 1, 0, 0, 1);
        dueSimple("a corner in the midst of a side", 1, 1, 0, 0, 2, 0, 4, 0, 0, 4);
        dueSimple("the first corner in the midst of a side", 1, 1, 2, 0, 4, 0, 0, 4, 0, 0);
        dueSimple("eight corners", 1, 1, -6, -6, 6, -6, 6, 6, 5, -5, 4, 6, 3, -5, 2, 6, -6, 6);
        dueSimple("sharp", 1, 1, -6, -6, 6, 5, 5, 5);
    }

    private static void fencesThatAreNotSimple() {
        dueSimple("no corner", 0, 0);
        dueSimple("one corner", 0, 0, 1, 1);
        dueSimple("two corners", 0, 0, 1, 1, 2, 2);
        dueSimple("there and back", 0, 0, 1, 1, 2, 2, 1, 1);
        dueSimple("a flat triangle", 0, 0, 0, 0, 1, 0, 3, 0);
        dueSimple("a flat triangle, otherwise", 0, 0, 0, 0, 3, 0, 1, 0);
        dueSimple("a flat triangle, from its midst", 0, 0, 1, 0, 3, 0, 0, 0);
        dueSimple("bow", 0, 0, BOW);
        dueSimple("the last corner is the first", 0, 0, 0, 0, 4, 0, 0, 4, 0, 0);
        dueSimple("a corner on another side", 0, 0, 0, 0, 4, 0, 4, 4, 2, 0, 0, 4);
        dueSimple("a corner twice", 0, 0, 0, 0, 3, 0, 3, 3, 1, 1, 5, 5, 0, 5, 1, 1);
        dueSimple("a piece that folds back", 0, 0, 0, 0, 4, 0, 2, 0, 2, 4);
        dueSimple("the last piece folds back on the first", 0, 0, 2, 0, 4, 0, 4, 4, 6, 6, 6, 0);
        dueSimple("pieces in one line that overlap", 0, 0, 0, 0, 4, 0, 4, 2, 2, 2, 2, 0, 1, 0, 0, 4);
        dueSimple("crossing between whole places", 0, 0, 0, 0, 3, 0, 3, 3, 1, -1);
        dueSimple("the latest piece meets a corner", 0, 0, 0, 0, 2, 0, 4, 2, 2, 4, 2, -2);
    }

    private static void areas() {
        CHECK.due("area of nothing", fenced().area(), 0);
        CHECK.due("area of one", fenced(3, 4).area(), 0);
        CHECK.due("area of two", fenced(3, 4, -1, 2).area(), 0);
        CHECK.due("square", fenced(SQUARE).area(), 32);
        CHECK.due("with the clock", fenced(SQUARE_WITH_THE_CLOCK).area(), -32);
        CHECK.due("bow", fenced(BOW).area(), 0);
        CHECK.due("all", fenced(-6, -6, 6, -6, 6, 6, -6, 6).area(), 288);
        CHECK.due("all, twice around", fenced(-6, -6, 6, -6, 6, 6, -6, 6, -6, -6, 6, -6, 6, 6, -6, 6).area(), 576);
        CHECK.due("triangle", fenced(0, 0, 1, 0, 0, 1).area(), 1);
    }

    private static void within() {
        for (int[] square : new int[][] {SQUARE, SQUARE_WITH_THE_CLOCK}) {
            FlowPlane plane = fenced(square);
            for (int x = -6; x <= 6; x++) {
                for (int y = -6; y <= 6; y++) {
                    int far = Math.max(Math.abs(x), Math.abs(y));
                    CHECK.due("within " + x + ", " + y, plane.within(x, y), far < 2 ? 2 : far == 2 ? 1 : 0);
                }
            }
        }
        // A diamond: the way to the right goes through its corner.
        FlowPlane diamond = fenced(0, -3, 3, 0, 0, 3, -3, 0);
        for (int x = -6; x <= 6; x++) {
            for (int y = -6; y <= 6; y++) {
                int far = Math.abs(x) + Math.abs(y);
                CHECK.due("diamond " + x + ", " + y, diamond.within(x, y), far < 3 ? 2 : far == 3 ? 1 : 0);
            }
        }
        // A comb whose teeth end at the height of the places asked for.
        FlowPlane comb = fenced(-6, -6, 6, -6, 4, 0, 2, -4, 0, 0, -2, -4, -4, 0);
        CHECK.due("left of the teeth", comb.within(-6, 0), 0);
        CHECK.due("between the teeth", comb.within(-2, 0), 0);
        CHECK.due("on a tooth", comb.within(0, 0), 1);
        CHECK.due("between bases", comb.within(2, -4), 1);
        CHECK.due("below a base", comb.within(2, -5), 2);
        CHECK.due("in a tooth", comb.within(0, -4), 2);
        CHECK.due("between", comb.within(2, -3), 0);
        CHECK.due("beyond before kind", fenced().within(7, 0), Check.BEYOND);
        CHECK.due("kind", fenced().within(0, 0), Check.KIND);
        CHECK.due("kind", fenced(BOW).within(0, 0), Check.KIND);
        for (int wild : Check.WILD) {
            CHECK.due("within wild", comb.within(wild, 0), Check.BEYOND);
            CHECK.due("within wild", comb.within(0, wild), Check.BEYOND);
        }
    }

    private static void dueAcross(String what, int across, int turns, int[] flow, int... ends) {
        FlowPlane plane = Check.flow(flow);
        Check.setFence(plane, ends);
        CHECK.due(what + ": across", plane.across(0), across);
        CHECK.due(what + ": turns", plane.turns(0), turns);
    }

    private static void acrossAndTurns() {
        dueAcross("upward over a flat piece", 1, 0, new int[] {0, 0, 0, 0, 0, 0, 1}, 0, 0, 4, 0);
        dueAcross("upward over a flat piece, the other way", -1, 0, new int[] {0, 0, 0, 0, 0, 0, 1}, 4, 0, 0, 0);
        dueAcross("along the piece", 0, 3, new int[] {1}, 0, 0, 4, 0);
        dueAcross("nothing", 0, 3, new int[] {0}, 0, 0, 4, 4);
        dueAcross("to the right", -1, 0, new int[] {1}, 0, -1, 0, 3);
        // Q = x along the x-axis.
        dueAcross("0 at the start", 0, 1, new int[] {0, 0, 0, 0, 0, 0, 0, 1}, 0, 0, 4, 0);
        dueAcross("0 at the end", 0, 1, new int[] {0, 0, 0, 0, 0, 0, 0, 1}, -4, 0, 0, 0);
        dueAcross("0 within", 0, 1, new int[] {0, 0, 0, 0, 0, 0, 0, 1}, -4, 0, 1, 0);
        dueAcross("0 just before", 1, 0, new int[] {0, 0, 0, 0, 0, 0, 0, 1}, 1, 0, 4, 0);
        // Q = x x - 1.
        int[] two = {0, 0, 0, 0, 0, 0, -1, 0, 0, 1};
        dueAcross("two zeros", 0, 2, two, -2, 0, 2, 0);
        dueAcross("two zeros at the ends", 0, 2, two, -1, 0, 1, 0);
        dueAcross("one of two zeros", 0, 1, two, 0, 0, 4, 0);
        dueAcross("zeros outside", 1, 0, two, 2, 0, 5, 0);
        // Q = x x - 2: zeros at no fractions.
        int[] rooted = {0, 0, 0, 0, 0, 0, -2, 0, 0, 1};
        dueAcross("root of 2, twice", 0, 2, rooted, -2, 0, 2, 0);
        dueAcross("root of 2, between 1 and 2", 0, 1, rooted, 1, 0, 2, 0);
        dueAcross("root of 2, not between -1 and 1", -1, 0, rooted, -1, 0, 1, 0);
        dueAcross("root of 2, not from 2 on", 1, 0, rooted, 2, 0, 6, 0);
        // Q = x x: one zero, which it only touches; Q = 1 + x x: none.
        dueAcross("touched", 0, 1, new int[] {0, 0, 0, 0, 0, 0, 0, 0, 0, 1}, -2, 0, 2, 0);
        dueAcross("touched at the end", 0, 1, new int[] {0, 0, 0, 0, 0, 0, 0, 0, 0, -1}, -2, 0, 0, 0);
        dueAcross("touched outside", -1, 0, new int[] {0, 0, 0, 0, 0, 0, 0, 0, 0, -1}, -2, 0, -1, 0);
        dueAcross("no zero", 1, 0, new int[] {0, 0, 0, 0, 0, 0, 1, 0, 0, 1}, -2, 0, 2, 0);
        // Touched between whole places: Q = 1 - 4 x + 4 x x at 1/2.
        dueAcross("touched at a half", 0, 1, new int[] {0, 0, 0, 0, 0, 0, 1, -4, 0, 4}, 0, 0, 1, 0);
    }

    private static void acrossRefused() {
        FlowPlane plane = Check.flow(1);
        CHECK.due("across without a fence", plane.across(0), Check.BEYOND);
        CHECK.due("turns without a fence", plane.turns(0), Check.BEYOND);
        plane.corner(1, 1);
        CHECK.due("across with one corner", plane.across(0), Check.SIZE);
        CHECK.due("turns with one corner", plane.turns(0), Check.SIZE);
        CHECK.due("across 1 with one corner", plane.across(1), Check.BEYOND);
        plane.corner(1, 3);
        CHECK.due("across 0 of two", plane.across(0), -1);
        CHECK.due("across 1 of two", plane.across(1), 1);
        plane.corner(1, 1);
        CHECK.due("across 2, back at the first", plane.across(2), Check.SIZE);
        CHECK.due("turns 2, back at the first", plane.turns(2), Check.SIZE);
        CHECK.due("across 1", plane.across(1), 1);
        CHECK.due("across 3", plane.across(3), Check.BEYOND);
        CHECK.due("turns -1", plane.turns(-1), Check.BEYOND);
        for (int wild : Check.WILD) {
            CHECK.due("across wild", plane.across(wild), Check.BEYOND);
            CHECK.due("turns wild", plane.turns(wild), Check.BEYOND);
        }
    }

    private static void held() {
        FlowPlane sink = Check.flow(0, -1, 0, 0, 0, 0, 0, 0, -1);
        CHECK.due("held without a fence", sink.held(false), Check.KIND);
        Check.setFence(sink, SQUARE);
        CHECK.due("held in", sink.held(false), 1);
        CHECK.due("not out", sink.held(true), 0);
        sink.back();
        CHECK.due("not in", sink.held(false), 0);
        CHECK.due("held out", sink.held(true), 1);
        Check.setFence(sink, SQUARE_WITH_THE_CLOCK);
        CHECK.due("not left", sink.held(false), Check.KIND);
        Check.setFence(sink, BOW);
        CHECK.due("not simple", sink.held(true), Check.KIND);
        // One piece lies along the flow.
        FlowPlane slide = Check.flow(0, -1, 0, 0, 0, 0, 0, 0, -1);
        Check.setFence(slide, 0, 0, 3, 0, 3, 3, 0, 3);
        CHECK.due("a piece along the flow", slide.held(false), 0);
        // Only the last piece is not held.
        FlowPlane leak = Check.flow(0, -1, 0, 0, 0, 0, 0, 0, -1);
        Check.setFence(leak, 1, -2, 3, -2, 3, 2, 1, 2);
        CHECK.due("the last piece lets out", leak.held(false), 0);
    }

    private static void dueWind(String what, int wind, int[] flow, int... places) {
        FlowPlane plane = Check.flow(flow);
        Check.setFence(plane, places);
        CHECK.due("wind of " + what, plane.wind(), wind);
    }

    private static void windOfPlainFlows() {
        int[] source = {0, 1, 0, 0, 0, 0, 0, 0, 1};
        int[] saddle = {0, 1, 0, 0, 0, 0, 0, 0, -1};
        int[] ring = {0, 0, -1, 0, 0, 0, 0, 1};
        // x x - y y, 2 x y winds twice; its mirror image -2 times.
        int[] twice = {0, 0, 0, 1, 0, -1, 0, 0, 0, 0, 2};
        int[] twiceBack = {0, 0, 0, 1, 0, -1, 0, 0, 0, 0, -2};
        dueWind("a source", 1, source, SQUARE);
        dueWind("a saddle", -1, saddle, SQUARE);
        dueWind("a ring", 1, ring, SQUARE);
        dueWind("two turns", 2, twice, SQUARE);
        dueWind("two turns back", -2, twiceBack, SQUARE);
        dueWind("a source, with the clock", -1, source, SQUARE_WITH_THE_CLOCK);
        dueWind("a saddle, with the clock", 1, saddle, SQUARE_WITH_THE_CLOCK);
        dueWind("two turns, with the clock", -2, twice, SQUARE_WITH_THE_CLOCK);
        dueWind("twice around two turns", 4, twice, -2, -2, 2, -2, 2, 2, -2, 2, -2, -2, 2, -2, 2, 2, -2, 2);
        dueWind("a source outside", 0, source, 1, 1, 4, 1, 4, 4, 1, 4);
        dueWind("one way", 0, new int[] {0, 0, 0, 0, 0, 0, -3}, SQUARE);
        dueWind("there and back", 0, source, 1, 1, 4, -2);
        dueWind("there and back, ending at the first", 0, source, 1, 1, 4, -2, 1, 1);
        dueWind("around and back at the first", 1, source, -2, -2, 2, -2, 2, 2, -2, 2, -2, -2);
        dueWind("a bow around two halves", 0, new int[] {0, 1, 0, 0, 0, 0, 1, 0, 1}, BOW);
    }

    private static void windMeetsRests() {
        int[] source = {0, 1, 0, 0, 0, 0, 0, 0, 1};
        dueWind("no corner", Check.NONE, source);
        dueWind("one corner", Check.NONE, source, 0, 0);
        dueWind("a rest at a corner", Check.REST, source, 0, 0, 4, 0, 4, 4);
        dueWind("a rest within a piece", Check.REST, source, -1, -1, 2, 2, -2, 2);
        dueWind("a rest on the last piece", Check.REST, source, 1, 1, -2, 2, -1, -1);
        dueWind("nothing", Check.REST, new int[] {0}, 0, 0, 1, 0);
        // P = x x - 2 y, Q = 2 - x x: rests at (root of 2, 1), which no whole place tells.
        int[] rooted = {0, 0, -2, 1, 0, 0, 2, 0, 0, -1};
        dueWind("a rest at no fraction", Check.REST, rooted, 1, 1, 2, 1, 2, 3);
        dueWind("near it", 0, rooted, 2, 1, 3, 1, 3, 3);
        // Q is 0 all along y = 0, P is 0 at x = 1/2.
        dueWind("a rest at a half", Check.REST, new int[] {-1, 2, 0, 0, 0, 0, 0, 0, 1}, 0, 0, 1, 0, 1, 1);
        dueWind("no rest on a piece where Q is 0", 0, new int[] {-1, 2, 0, 0, 0, 0, 0, 0, 1}, 1, 0, 3, 0, 3, 1);
        // P and Q share a zero beyond the piece's end only.
        dueWind("a rest in line with a piece", 0, source, 1, 0, 3, 0, 3, 2);
        // P = x x - 2, Q = x y - 2 ... share no zero on y = 1 though both are 0 there.
        dueWind("both 0 but not at once", 0, new int[] {-2, 0, 0, 1, 0, 0, -2, 1}, 0, 1, 3, 1);
    }

    private static void windAtCorners() {
        int[] source = {0, 1, 0, 0, 0, 0, 0, 0, 1};
        // Corners on the axis that is counted, pieces along it, and touches of it.
        dueWind("a diamond", 1, source, 3, 0, 0, 3, -3, 0, 0, -3);
        dueWind("a diamond from another corner", 1, source, 0, 3, -3, 0, 0, -3, 3, 0);
        dueWind("a diamond with the clock", -1, source, 3, 0, 0, -3, -3, 0, 0, 3);
        dueWind("a piece along the axis", 1, source, 1, 0, 3, 0, 0, 3, -3, 0, 0, -3);
        dueWind("a corner that touches from above", 0, source, 2, 0, 3, 2, 1, 2);
        dueWind("a corner that touches from below", 0, source, 2, 0, 1, -2, 3, -2);
        // Q = -(x x) touches 0 from below where P is above 0.
        dueWind("a touch from below", 0, new int[] {1, 0, 0, 0, 0, 0, 0, 0, 0, -1}, -1, 1, 1, 1, 0, 3);
        dueWind("a touch at a corner", 0, new int[] {1, 0, 0, 0, 0, 0, 0, 0, 0, -1}, 0, 1, 2, 1, 0, 3);
    }

    private static void indexes() {
        FlowPlane four = Check.flow(-4, 0, 0, 1, 0, 0, -1, 0, 0, 0, 0, 1);
        CHECK.due("no fence", four.indexes(), Check.KIND);
        Check.setFence(four, BOW);
        CHECK.due("not simple", four.indexes(), Check.KIND);
        Check.setFence(four, -3, -3, 3, -3, 3, 3, -3, 3);
        CHECK.due("all four", four.indexes(), 0);
        CHECK.due("as it winds", four.wind(), 0);
        Check.setFence(four, 0, 0, 3, 0, 3, 3, 0, 3);
        CHECK.due("one node", four.indexes(), 1);
        Check.setFence(four, 0, 3, 3, 3, 3, -3, 0, -3);
        CHECK.due("a node and a saddle, with the clock", four.indexes(), 0);
        Check.setFence(four, -3, 0, -1, 0, -1, 2);
        CHECK.due("a rest on a piece is not inside", four.indexes(), 0);
        Check.setFence(four, -3, 0, 0, 0, 0, 3, -3, 3);
        CHECK.due("one saddle", four.indexes(), -1);
        // P = x x, Q = y: blunt at (0, 0).
        FlowPlane blunt = Check.flow(0, 0, 0, 1, 0, 0, 0, 0, 1);
        Check.setFence(blunt, SQUARE);
        CHECK.due("a blunt one", blunt.indexes(), Check.NONE);
        Check.setFence(blunt, 0, 0, 2, 0, 0, 2);
        CHECK.due("a blunt one at a corner", blunt.indexes(), 0);
        Check.setFence(blunt, 1, 1, 2, 1, 1, 2);
        CHECK.due("a blunt one outside", blunt.indexes(), 0);
        FlowPlane spiral = Check.flow(0, -1, -1, 0, 0, 0, 0, 1, -1);
        Check.setFence(spiral, SQUARE_WITH_THE_CLOCK);
        CHECK.due("a spiral", spiral.indexes(), 1);
        FlowPlane even = Check.flow(0, 0, -1, 0, 0, 0, 0, 1);
        Check.setFence(even, SQUARE);
        CHECK.due("an even one", even.indexes(), 1);
    }
}
