/** Promises 11 to 14: rests, rest, sort, sorts. */
public final class RestsTest {
    private static final Check CHECK = new Check("RestsTest");

    public static void main(String[] args) {
        everywhere();
        fourRests();
        none();
        sortsOfLinearFlows();
        wrongInputs();
        CHECK.end();
    }

    private static void everywhere() {
        FlowPlane plane = new FlowPlane();
        CHECK.due("rests", plane.rests(), 169);
        int i = 0;
        for (int x = -6; x <= 6; x++) {
            for (int y = -6; y <= 6; y++) {
                CHECK.due("rest x", plane.rest(i, false), x);
                CHECK.due("rest y", plane.rest(i, true), y);
                i++;
            }
        }
        CHECK.due("rest 169", plane.rest(169, false), Check.NONE);
        CHECK.due("all are blunt", plane.sorts(5), 169);
        CHECK.due("none is a saddle", plane.sorts(1), 0);
    }

    /** P = x x - 4, Q = y y - 1: four rests, of three sorts. */
    private static void fourRests() {
        FlowPlane plane = Check.flow(-4, 0, 0, 1, 0, 0, -1, 0, 0, 0, 0, 1);
        CHECK.due("rests", plane.rests(), 4);
        int[][] places = {{-2, -1}, {-2, 1}, {2, -1}, {2, 1}};
        int[] sorts = {2, 1, 1, 2};
        for (int i = 0; i < 4; i++) {
            CHECK.due("rest x", plane.rest(i, false), places[i][0]);
            CHECK.due("rest y", plane.rest(i, true), places[i][1]);
            CHECK.due("sort", plane.sort(places[i][0], places[i][1]), sorts[i]);
        }
        CHECK.due("saddles", plane.sorts(1), 2);
        CHECK.due("nodes", plane.sorts(2), 2);
        CHECK.due("spirals", plane.sorts(3), 0);
    }

    private static void none() {
        FlowPlane plane = Check.flow(1);
        CHECK.due("rests", plane.rests(), 0);
        CHECK.due("rest 0", plane.rest(0, true), Check.NONE);
        CHECK.due("sort", plane.sort(0, 0), Check.NONE);
        CHECK.due("sorts", plane.sorts(5), 0);
    }

    private static int sortOf(int px, int py, int qx, int qy) {
        FlowPlane plane = Check.flow(0, px, py, 0, 0, 0, 0, qx, qy, 0, 0, 0);
        return plane.sort(0, 0);
    }

    private static void sortsOfLinearFlows() {
        CHECK.due("saddle", sortOf(1, 0, 0, -1), 1);
        CHECK.due("node", sortOf(1, 0, 0, 2), 2);
        CHECK.due("node with T T as 4 D", sortOf(-1, 1, 0, -1), 2);
        CHECK.due("star", sortOf(3, 0, 0, 3), 2);
        CHECK.due("spiral", sortOf(-1, -1, 1, -1), 3);
        CHECK.due("spiral out", sortOf(1, -1, 1, 0), 3);
        CHECK.due("even", sortOf(0, -1, 1, 0), 4);
        CHECK.due("even with slopes", sortOf(1, -2, 1, -1), 4);
        CHECK.due("blunt", sortOf(1, 2, 2, 4), 5);
        CHECK.due("blunt of a zero row", sortOf(1, 1, 0, 0), 5);
        for (int px = -4; px <= 4; px++) {
            for (int qy = -4; qy <= 4; qy++) {
                for (int py = -4; py <= 4; py += 2) {
                    int qx = 3;
                    int t = px + qy;
                    int d = px * qy - py * qx;
                    int want = d < 0 ? 1 : d == 0 ? 5 : t * t >= 4 * d ? 2 : t != 0 ? 3 : 4;
                    CHECK.due("sort", sortOf(px, py, qx, qy), want);
                }
            }
        }
    }

    private static void wrongInputs() {
        FlowPlane plane = Check.flow(0, 1, 0, 0, 0, 0, 0, 0, 1);
        CHECK.due("sort beyond before none", plane.sort(7, 0), Check.BEYOND);
        CHECK.due("sort beyond", plane.sort(0, -7), Check.BEYOND);
        CHECK.due("sort at no rest", plane.sort(6, 6), Check.NONE);
        CHECK.due("sorts 0", plane.sorts(0), Check.BEYOND);
        CHECK.due("sorts 6", plane.sorts(6), Check.BEYOND);
        CHECK.due("rest -1", plane.rest(-1, true), Check.NONE);
        CHECK.due("rest 1", plane.rest(1, true), Check.NONE);
        for (int wild : Check.WILD) {
            CHECK.due("sort wild", plane.sort(wild, 0), Check.BEYOND);
            CHECK.due("sort wild", plane.sort(0, wild), Check.BEYOND);
            CHECK.due("sorts wild", plane.sorts(wild), Check.BEYOND);
            CHECK.due("rest wild", plane.rest(wild, false), Check.NONE);
        }
        CHECK.due("findings are told", plane.told(3), 7 + 4 * Check.WILD.length);
    }
}
