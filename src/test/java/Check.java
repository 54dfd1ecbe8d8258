/** Counts the answers that are not the ones due; a test ends with exit code 1 if there was one. */
final class Check {
    static final int BEYOND = -1000001;
    static final int MISSING = -1000002;
    static final int SIZE = -1000003;
    static final int KIND = -1000004;
    static final int FULL = -1000005;
    static final int NONE = -1000006;
    static final int REST = -1000007;

    /** Whole numbers that lie outside every range the document names. */
    static final int[] WILD = {Integer.MIN_VALUE, Integer.MIN_VALUE + 1, -1000000, -100, 100, 1000000,
        Integer.MAX_VALUE - 1, Integer.MAX_VALUE};

    private final String name;
    private int asked = 0;
    private int wrong = 0;

    Check(String name) {
        this.name = name;
    }

    void due(String what, long got, long want) {
        asked++;
        if (got != want) {
            wrong++;
            if (wrong <= 50) {
                System.out.println(name + ": " + what + " answered " + got + ", due is " + want);
            }
        }
    }

    void holds(String what, boolean holds) {
        due(what, holds ? 1 : 0, 1);
    }

    void end() {
        System.out.println(name + ": " + asked + " answers, " + wrong + " not as due");
        if (wrong != 0 || asked == 0) {
            System.exit(1);
        }
    }

    /** A flow from its twelve numbers, P's six first. */
    static FlowPlane flow(int... numbers) {
        FlowPlane plane = new FlowPlane();
        setFlow(plane, numbers);
        return plane;
    }

    static void setFlow(FlowPlane plane, int... numbers) {
        for (int i = 0; i < 12; i++) {
            plane.put(i >= 6, i % 6, i < numbers.length ? numbers[i] : 0);
        }
    }

    /** A fence from x and y of each corner in turn, in place of the one there was. */
    static void setFence(FlowPlane plane, int... places) {
        plane.open();
        for (int i = 0; i + 1 < places.length; i += 2) {
            plane.corner(places[i], places[i + 1]);
        }
    }

    void dueNumbers(String what, FlowPlane plane, int... numbers) {
        for (int i = 0; i < 12; i++) {
            due(what + ": number(" + (i >= 6) + ", " + i % 6 + ")", plane.number(i >= 6, i % 6),
                i < numbers.length ? numbers[i] : 0);
        }
    }
}
