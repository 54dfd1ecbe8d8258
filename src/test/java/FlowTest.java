/** Promises 1 to 10: a new object, put, number, speed, slope, back, quarter, mirror, move, add. */
public final class FlowTest {
    private static final Check CHECK = new Check("FlowTest");
    private static final int[] MIXED = {1, -2, 3, 4, -3, 2, -1, 2, -4, 1, 3, -2};

    public static void main(String[] args) {
        aNewObject();
        putAndNumber();
        putAndNumberBeyond();
        speedAndSlope();
        speedAndSlopeBeyond();
        back();
        quarter();
        mirror();
        move();
        add();
        CHECK.end();
    }

    private static void aNewObject() {
        FlowPlane x = new FlowPlane();
        CHECK.dueNumbers("new", x);
        for (int what = 0; what < 4; what++) {
            CHECK.due("new: told(" + what + ")", x.told(what), 0);
        }
        for (int s = 0; s < 4; s++) {
            CHECK.due("new: bring(" + s + ")", x.bring(s), Check.NONE);
            CHECK.due("new: lay(" + s + ")", x.lay(s), Check.MISSING);
        }
        CHECK.due("new: undo()", x.undo(), Check.NONE);
    }

    private static void putAndNumber() {
        FlowPlane x = new FlowPlane();
        for (int m = 0; m < 6; m++) {
            CHECK.due("put first", x.put(false, m, 4), 0);
            CHECK.due("put again", x.put(false, m, -4), 4);
            CHECK.due("put once more", x.put(false, m, m - 2), -4);
            CHECK.due("the other part is as it was", x.number(true, m), 0);
            CHECK.due("put of Q", x.put(true, m, 3 - m), 0);
        }
        CHECK.dueNumbers("put", x, -2, -1, 0, 1, 2, 3, 3, 2, 1, 0, -1, -2);
    }

    private static void putAndNumberBeyond() {
        FlowPlane x = Check.flow(MIXED);
        CHECK.due("put m -1", x.put(false, -1, 0), Check.BEYOND);
        CHECK.due("put m 6", x.put(true, 6, 0), Check.BEYOND);
        CHECK.due("put v 5", x.put(false, 0, 5), Check.BEYOND);
        CHECK.due("put v -5", x.put(true, 5, -5), Check.BEYOND);
        CHECK.due("number m -1", x.number(false, -1), Check.BEYOND);
        CHECK.due("number m 6", x.number(true, 6), Check.BEYOND);
        for (int wild : Check.WILD) {
            CHECK.due("put m " + wild, x.put(false, wild, 0), Check.BEYOND);
            CHECK.due("put v " + wild, x.put(false, 0, wild), Check.BEYOND);
            CHECK.due("number " + wild, x.number(true, wild), Check.BEYOND);
        }
        CHECK.dueNumbers("findings change nothing", x, MIXED);
        CHECK.due("findings are told", x.told(3), 6 + 3 * Check.WILD.length);
    }

    private static int valueOf(int[] n, int from, int x, int y) {
        return n[from] + n[from + 1] * x + n[from + 2] * y + n[from + 3] * x * x + n[from + 4] * x * y + n[from + 5] * y * y;
    }

    private static void speedAndSlope() {
        FlowPlane plane = Check.flow(MIXED);
        for (int x = -6; x <= 6; x++) {
            for (int y = -6; y <= 6; y++) {
                for (int part = 0; part < 2; part++) {
                    int from = 6 * part;
                    String at = " at " + x + ", " + y + " of " + part;
                    CHECK.due("speed" + at, plane.speed(x, y, part == 1), valueOf(MIXED, from, x, y));
                    // For a square, half the step from one before to one after is the slope.
                    int byX = (valueOf(MIXED, from, x + 1, y) - valueOf(MIXED, from, x - 1, y)) / 2;
                    int byY = (valueOf(MIXED, from, x, y + 1) - valueOf(MIXED, from, x, y - 1)) / 2;
                    CHECK.due("slope by x" + at, plane.slope(x, y, 2 * part), byX);
                    CHECK.due("slope by y" + at, plane.slope(x, y, 2 * part + 1), byY);
                }
            }
        }
    }

    private static void speedAndSlopeBeyond() {
        FlowPlane plane = Check.flow(MIXED);
        int[][] places = {{7, 0}, {-7, 0}, {0, 7}, {0, -7}};
        for (int[] place : places) {
            CHECK.due("speed beyond", plane.speed(place[0], place[1], false), Check.BEYOND);
            CHECK.due("slope beyond", plane.slope(place[0], place[1], 0), Check.BEYOND);
        }
        CHECK.due("slope -1", plane.slope(0, 0, -1), Check.BEYOND);
        CHECK.due("slope 4", plane.slope(0, 0, 4), Check.BEYOND);
        for (int wild : Check.WILD) {
            CHECK.due("speed wild x", plane.speed(wild, 0, true), Check.BEYOND);
            CHECK.due("speed wild y", plane.speed(0, wild, true), Check.BEYOND);
            CHECK.due("slope wild x", plane.slope(wild, 0, 1), Check.BEYOND);
            CHECK.due("slope wild y", plane.slope(0, wild, 2), Check.BEYOND);
            CHECK.due("slope wild what", plane.slope(0, 0, wild), Check.BEYOND);
        }
    }

    private static void back() {
        FlowPlane plane = Check.flow(MIXED);
        CHECK.due("back", plane.back(), 1);
        CHECK.dueNumbers("back", plane, -1, 2, -3, -4, 3, -2, 1, -2, 4, -1, -3, 2);
        CHECK.due("back again", plane.back(), 1);
        CHECK.dueNumbers("back twice", plane, MIXED);
    }

    private static void quarter() {
        FlowPlane plane = Check.flow(MIXED);
        CHECK.due("quarter", plane.quarter(), 1);
        for (int x = -6; x <= 6; x++) {
            for (int y = -6; y <= 6; y++) {
                CHECK.due("quarter P", plane.speed(x, y, false), -valueOf(MIXED, 6, y, -x));
                CHECK.due("quarter Q", plane.speed(x, y, true), valueOf(MIXED, 0, y, -x));
            }
        }
        for (int i = 0; i < 3; i++) {
            CHECK.due("quarter", plane.quarter(), 1);
        }
        CHECK.dueNumbers("four quarters", plane, MIXED);
    }

    private static void mirror() {
        FlowPlane plane = Check.flow(MIXED);
        CHECK.due("mirror", plane.mirror(), 1);
        for (int x = -6; x <= 6; x++) {
            for (int y = -6; y <= 6; y++) {
                CHECK.due("mirror P", plane.speed(x, y, false), -valueOf(MIXED, 0, -x, y));
                CHECK.due("mirror Q", plane.speed(x, y, true), valueOf(MIXED, 6, -x, y));
            }
        }
        CHECK.due("mirror again", plane.mirror(), 1);
        CHECK.dueNumbers("mirror twice", plane, MIXED);
    }

    private static void move() {
        // P = x x - y, Q = 1 + x y, seen from (1, -1): P = 2 + 2 x - y + x x, Q = -x + y + x y.
        FlowPlane plane = Check.flow(0, 0, -1, 1, 0, 0, 1, 0, 0, 0, 1, 0);
        CHECK.due("move", plane.move(1, -1), 1);
        CHECK.dueNumbers("move", plane, 2, 2, -1, 1, 0, 0, 0, -1, 1, 0, 1, 0);
        CHECK.due("move back", plane.move(-1, 1), 1);
        CHECK.dueNumbers("move back", plane, 0, 0, -1, 1, 0, 0, 1, 0, 0, 0, 1, 0);
        // From (2, 0): P = 4 + 4 x - y + x x just fits; from (3, 0) it does not.
        CHECK.due("move too far", plane.move(3, 0), Check.SIZE);
        CHECK.dueNumbers("a finding changes nothing", plane, 0, 0, -1, 1, 0, 0, 1, 0, 0, 0, 1, 0);
        CHECK.due("move just so far", plane.move(2, 0), 1);
        CHECK.dueNumbers("move just so far", plane, 4, 4, -1, 1, 0, 0, 1, 0, 2, 0, 1, 0);
        // Only Q runs over here.
        FlowPlane other = Check.flow(0, 0, 0, 0, 0, 0, 0, 0, 0, 0, 0, 1);
        CHECK.due("move Q too far", other.move(0, -3), Check.SIZE);
        CHECK.due("move beyond", other.move(7, 0), Check.BEYOND);
        CHECK.due("move beyond", other.move(0, -7), Check.BEYOND);
        CHECK.due("move x alone", other.move(6, 0), 1);
        for (int wild : Check.WILD) {
            CHECK.due("move wild", other.move(wild, 0), Check.BEYOND);
            CHECK.due("move wild", other.move(0, wild), Check.BEYOND);
        }
        CHECK.dueNumbers("a finding changes nothing", other, 0, 0, 0, 0, 0, 0, 0, 0, 0, 0, 0, 1);
    }

    private static void add() {
        FlowPlane plane = Check.flow(1, 0, -1, 0, 0, 0, 0, 0, 0, 0, 1, 2);
        CHECK.due("add of an empty slot", plane.add(2, 0), Check.NONE);
        plane.keep(2);
        CHECK.due("add", plane.add(2, -2), 1);
        CHECK.dueNumbers("add", plane, -1, 0, 1, 0, 0, 0, 0, 0, 0, 0, -1, -2);
        CHECK.due("add", plane.add(2, 3), 1);
        CHECK.dueNumbers("add", plane, 2, 0, -2, 0, 0, 0, 0, 0, 0, 0, 2, 4);
        CHECK.due("add too much", plane.add(2, 1), Check.SIZE);
        CHECK.due("add too little", plane.add(2, -5), Check.BEYOND);
        CHECK.due("add none", plane.add(2, 0), 1);
        CHECK.due("add below", plane.add(2, -4), 1);
        CHECK.dueNumbers("add", plane, -2, 0, 2, 0, 0, 0, 0, 0, 0, 0, -2, -4);
        // BEYOND is asked before NONE.
        CHECK.due("add c beyond", plane.add(1, 5), Check.BEYOND);
        CHECK.due("add slot beyond", plane.add(4, 1), Check.BEYOND);
        CHECK.due("add slot beyond", plane.add(-1, 1), Check.BEYOND);
        CHECK.due("add empty", plane.add(1, 4), Check.NONE);
        for (int wild : Check.WILD) {
            CHECK.due("add slot wild", plane.add(wild, 1), Check.BEYOND);
            CHECK.due("add c wild", plane.add(2, wild), Check.BEYOND);
        }
        CHECK.dueNumbers("a finding changes nothing", plane, -2, 0, 2, 0, 0, 0, 0, 0, 0, 0, -2, -4);
    }
}
