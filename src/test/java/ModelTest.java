import java.util.Arrays;
import java.util.Map;
import java.util.Random;
import java.util.TreeMap;

/** All promises: long runs of calls, answered by the class and by the model alike. */
public final class ModelTest {
    private static final Check CHECK = new Check("ModelTest");
    private static final Map<String, Integer> SEEN = new TreeMap<>();
    private static final String[] FLOW = {"put", "number", "speed", "slope", "back", "quarter", "mirror", "move", "add"};
    private static final String[] RESTS = {"rests", "rest", "sort", "sorts"};
    private static final String[] FENCE = {"corner", "open", "simple", "area", "within", "across", "turns", "held", "wind",
        "indexes"};
    private static final String[] SUMS = {"along", "falls", "kept", "none", "edge", "far"};
    private static final String[] SLOTS = {"keep", "bring", "as", "sheet", "write", "copy", "lay", "undo", "told"};
    private static final int CALLS = 500;

    private final Random random;
    private final FlowPlane plane = new FlowPlane();
    private final Model model = new Model();
    private final String name;
    private int calls = 0;

    private ModelTest(long seed) {
        random = new Random(seed);
        name = "run " + seed + ", call ";
    }

    public static void main(String[] args) {
        int runs = args.length > 0 ? Integer.parseInt(args[0]) : 1500;
        for (int seed = 0; seed < runs; seed++) {
            ModelTest run = new ModelTest(seed);
            switch (seed % 3) {
                case 0 -> run.anyCalls();
                case 1 -> run.fences();
                default -> run.flows();
            }
        }
        dueSeen();
        CHECK.end();
    }

    /** That the runs reach what they are for. */
    private static void dueSeen() {
        String[] wanted = {"wind 2", "wind -2", "wind 1", "wind -1", "wind 3", "wind -1000007", "turns 2", "turns 3",
            "held 1", "kept 2", "kept 1", "kept 0", "edge 1", "edge 2", "edge 3", "edge 4", "sorts 4", "within 2", "indexes -1",
            "indexes 2", "indexes -1000006", "move -1000003", "corner -1000005", "none 1", "none -1", "undo 24", "lay 12"};
        for (String w : wanted) {
            CHECK.holds("the runs reach " + w, SEEN.containsKey(w));
        }
    }

    private void call(String call, int... a) {
        if (calls >= CALLS) {
            return;
        }
        calls++;
        int got = Calls.byName(plane, call, a);
        CHECK.due(name + calls + ": " + call + Arrays.toString(a), got, model.call(call, a));
        SEEN.merge(call + " " + got, 1, Integer::sum);
    }

    /** A number from low to high; seldom one beside, very seldom a wild one. */
    private int pick(int low, int high) {
        int dice = random.nextInt(60);
        if (dice == 0) {
            return low - 1;
        }
        if (dice == 1) {
            return high + 1;
        }
        if (dice == 2 && random.nextInt(4) == 0) {
            return Check.WILD[random.nextInt(Check.WILD.length)];
        }
        return low + random.nextInt(high - low + 1);
    }

    private int place() {
        return random.nextInt(3) == 0 ? pick(-6, 6) : pick(-2, 2);
    }

    private int small() {
        return random.nextInt(3) == 0 ? pick(-4, 4) : pick(-1, 1);
    }

    private int yes() {
        return random.nextInt(2);
    }

    private void anyCalls() {
        String[][] groups = {FLOW, RESTS, FENCE, SUMS, SLOTS};
        while (calls < CALLS) {
            String[] group = groups[random.nextInt(groups.length)];
            anyCall(group[random.nextInt(group.length)]);
        }
    }

    private void anyCall(String call) {
        switch (call) {
            case "put" -> call(call, yes(), pick(0, 5), small());
            case "number" -> call(call, yes(), pick(0, 5));
            case "speed" -> call(call, place(), place(), yes());
            case "slope" -> call(call, place(), place(), pick(0, 3));
            case "move" -> call(call, pick(-1, 1), pick(-1, 1));
            case "add" -> call(call, pick(0, 3), small());
            case "rest" -> call(call, pick(0, 2), yes());
            case "sort", "corner", "within", "far" -> call(call, place(), place());
            case "sorts" -> call(call, pick(1, 5));
            case "simple", "held" -> call(call, yes());
            case "across", "turns" -> call(call, pick(0, 5));
            case "along" -> call(call, pick(-9, 9), pick(-9, 9), pick(-9, 9), pick(-9, 9), pick(-9, 9), pick(0, 9));
            case "falls" -> call(call, pick(-9, 9), pick(-9, 9), pick(-9, 9), pick(-9, 9), pick(-9, 9), place(), place());
            case "none" -> call(call, pick(-6, 0), pick(-6, 0), pick(0, 6), pick(0, 6));
            case "keep", "bring", "lay", "told" -> call(call, pick(0, 3));
            case "as" -> call(call, pick(0, 3), pick(0, 3));
            case "sheet" -> call(call, pick(0, 3), new int[] {0, 8, 8, 8, 16, 32, 9}[random.nextInt(7)], pick(0, 16));
            case "write" -> call(call, pick(0, 3), pick(0, 12), random.nextInt(4) == 0 ? 256 * pick(-9, 9) + small() : small());
            case "copy" -> call(call, pick(0, 3), pick(0, 6), pick(0, 3), pick(0, 6), pick(0, 6));
            default -> call(call);
        }
    }

    private void someFlow(int many, int most) {
        for (int i = 0; i < many; i++) {
            call("put", yes(), random.nextInt(6), random.nextInt(2 * most + 1) - most);
        }
    }

    private void askFence() {
        call("simple", 0);
        call("simple", 1);
        call("area");
        call("wind");
        call("indexes");
        call("held", 0);
        call("held", 1);
        for (int k = 0; k < 8; k++) {
            call("across", k);
            call("turns", k);
        }
        for (int i = 0; i < 12; i++) {
            call("within", random.nextInt(13) - 6, random.nextInt(13) - 6);
        }
    }

    /** Fences around the midst, against the clock or with it, and fences of any kind, under flows of any kind. */
    private void fences() {
        while (calls < CALLS) {
            someFlow(1 + random.nextInt(5), random.nextInt(3) == 0 ? 4 : 1);
            call("open");
            int many = 2 + random.nextInt(7);
            boolean round = random.nextInt(3) > 0;
            int way = random.nextBoolean() ? 1 : -1;
            int rounds = random.nextInt(8) == 0 ? 2 : 1;
            int reach = 2 + random.nextInt(5);
            for (int i = 0; i < many; i++) {
                double angle = way * 2 * Math.PI * rounds * i / many + 0.3;
                double far = 1 + random.nextInt(reach);
                int x = round ? (int) Math.rint(far * Math.cos(angle)) : random.nextInt(2 * reach + 1) - reach;
                int y = round ? (int) Math.rint(far * Math.sin(angle)) : random.nextInt(2 * reach + 1) - reach;
                call("corner", Math.max(-6, Math.min(6, x)), Math.max(-6, Math.min(6, y)));
            }
            askFence();
            call("back");
            call("wind");
        }
    }

    /** Flows laid whole, and all that is told of a flow. */
    private void flows() {
        call("sheet", 0, 8, 12);
        while (calls < CALLS) {
            int most = 1 + random.nextInt(4);
            int rare = 1 + random.nextInt(4);
            for (int i = 0; i < 12; i++) {
                call("write", 0, i, random.nextInt(rare) == 0 ? random.nextInt(2 * most + 1) - most : 0);
            }
            if (random.nextInt(4) == 0) {
                call("copy", 0, 0, 0, 6, 6);
            }
            call("lay", 0);
            call("kept");
            call("edge");
            call("rests");
            for (int s = 1; s <= 5; s++) {
                call("sorts", s);
            }
            call("none", -2, -2, 2, 2);
            call("none", random.nextInt(3) - 3, 0, 1, 1 + random.nextInt(4));
            call("keep", random.nextInt(4));
            call("as", random.nextInt(4), random.nextInt(4));
            anyCall(FLOW[random.nextInt(FLOW.length)]);
            anyCall("undo");
        }
    }
}
