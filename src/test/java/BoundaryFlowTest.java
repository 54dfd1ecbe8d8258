/** The sentences of promises 1 to 10, one by one: a new object, put, number, speed, slope, back .. add. */
public final class BoundaryFlowTest {
    private static final Sentences S = new Sentences("BoundaryFlowTest");
    private static final int[] MIXED = {1, -2, 3, 4, -3, 2, -1, 2, -4, 1, 3, -2};

    public static void main(String[] args) {
        aNewObject();
        put();
        number();
        speed();
        slope();
        back();
        quarter();
        mirror();
        move();
        moveOverflows();
        add();
        addOverflows();
        S.end(1, 10);
    }

    private static void aNewObject() {
        S.of(1, "A flow of nothing (all NUMBERS 0)");
        S.dueFlow();
        S.due("told(1)", 0);
        S.due("rests()", 169);
        S.due("kept()", 5);
        S.due("undo()", Check.NONE);
        S.of(1, "no fence");
        S.due("told(0)", 0);
        S.due("area()", 0);
        S.due("simple(false)", 0);
        S.due("across(0)", Check.BEYOND);
        S.due("wind()", Check.NONE);
        S.due("open()", 0);
        S.of(1, "slots empty");
        S.due("told(2)", 0);
        for (int slot = 0; slot < 4; slot++) {
            S.due("bring(" + slot + ")", Check.NONE);
            S.due("add(" + slot + ", 1)", Check.NONE);
            S.due("as(" + slot + ", 0)", Check.NONE);
        }
        S.of(1, "sheets MISSING");
        S.due("told(3)", 0);
        for (int s = 0; s < 4; s++) {
            S.due("lay(" + s + ")", Check.MISSING);
            S.due("write(" + s + ", 0, 0)", Check.MISSING);
            S.due("copy(" + s + ", 0, " + s + ", 0, 0)", Check.MISSING);
        }
    }

    private static void put() {
        S.of(2, "NUMBER m of P (of Q: of Q) becomes v: what it was.");
        for (int i = 0; i < 12; i++) {
            S.anew();
            String at = "(" + (i >= 6) + ", " + i % 6;
            S.due("put" + at + ", -4)", 0);
            S.due("put" + at + ", 4)", -4);
            S.due("put" + at + ", 4)", 4);
            int[] due = new int[12];
            due[i] = 4;
            S.dueFlow(due);
            S.due("put" + at + ", 0)", 4);
            S.dueFlow();
        }
        // It goes by the flow at hand, also where the latest act was refused or undone.
        S.anew();
        S.make("put(false, 1, 1)");
        S.make("put(true, 1, 2)");
        S.make("undo()");
        S.due("put(false, 0, 3)", 0);
        S.due("move(6, 0)", Check.SIZE);
        S.due("put(true, 0, 3)", 0);
        S.dueFlow(3, 1, 0, 0, 0, 0, 3);
        S.of(2, "BEYOND: m is not 0 to 5");
        S.furnish();
        S.refusedWith("put(false, #, 1)", Check.BEYOND, Sentences.outside(0, 5));
        S.refusedWith("put(true, #, 1)", Check.BEYOND, Sentences.outside(0, 5));
        S.due("put(false, 0, 1)", -3);
        S.due("put(true, 5, 1)", 0);
        S.of(2, "or v not -4 to 4.");
        S.furnish();
        S.refusedWith("put(false, 0, #)", Check.BEYOND, Sentences.outside(-4, 4));
        S.refusedWith("put(true, 5, #)", Check.BEYOND, Sentences.outside(-4, 4));
        S.refused("put(false, 6, 5)", Check.BEYOND);
    }

    private static void number() {
        S.of(3, "NUMBER m of P (Q).");
        S.dueFlow();
        S.flow(MIXED);
        S.dueFlow(MIXED);
        S.of(3, "BEYOND.");
        S.furnish();
        S.refusedWith("number(false, #)", Check.BEYOND, Sentences.outside(0, 5));
        S.refusedWith("number(true, #)", Check.BEYOND, Sentences.outside(0, 5));
    }

    private static void speed() {
        S.of(4, "The speed at a place: P (Q).");
        S.flow(MIXED);
        S.due("speed(0, 0, false)", 1);
        S.due("speed(0, 0, true)", -1);
        S.due("speed(6, 6, false)", 1 - 12 + 18 + 144 - 108 + 72);
        S.due("speed(-6, 6, true)", -1 - 12 - 24 + 36 - 108 - 72);
        // As far from 0 as a speed comes.
        S.anew();
        S.flow(4, 4, 4, 4, 4, 4, -4, -4, -4, -4, -4, -4);
        S.due("speed(6, 6, false)", 484);
        S.due("speed(6, 6, true)", -484);
        S.of(4, "BEYOND: it is no PLACE.");
        S.furnish();
        S.refusedWith("speed(#, 0, false)", Check.BEYOND, Sentences.outside(-6, 6));
        S.refusedWith("speed(0, #, true)", Check.BEYOND, Sentences.outside(-6, 6));
        S.due("speed(-6, -6, false)", -3 - 12 + 36);
        S.due("speed(6, 6, true)", 1 - 6);
    }

    private static void slope() {
        S.of(5, "The slope at a place:");
        S.flow(4, 4, 4, 4, 4, 4, -4, -4, -4, -4, -4, -4);
        S.due("slope(6, 6, 0)", 4 + 48 + 24);
        S.due("slope(-6, -6, 3)", -4 + 24 + 48);
        S.due("slope(0, 0, 1)", 4);
        S.of(5, "what 0 P by x, 1 P by y, 2 Q by x, 3 Q by y.");
        S.flow(MIXED);
        S.due("slope(2, -1, 0)", -2 + 16 + 3);
        S.due("slope(2, -1, 1)", 3 - 6 - 4);
        S.due("slope(2, -1, 2)", 2 + 4 - 3);
        S.due("slope(2, -1, 3)", -4 + 6 + 4);
        S.of(5, "BEYOND.");
        S.furnish();
        S.refusedWith("slope(#, 0, 0)", Check.BEYOND, Sentences.outside(-6, 6));
        S.refusedWith("slope(0, #, 0)", Check.BEYOND, Sentences.outside(-6, 6));
        S.refusedWith("slope(0, 0, #)", Check.BEYOND, Sentences.outside(0, 3));
    }

    private static void back() {
        S.of(6, "The flow is told backward: both polynomials times -1: 1.");
        S.due("back()", 1);
        S.dueFlow();
        S.flow(4, -4, 4, -4, 4, -4, -4, 4, -4, 4, -4, 4);
        S.due("back()", 1);
        S.dueFlow(-4, 4, -4, 4, -4, 4, 4, -4, 4, -4, 4, -4);
    }

    private static void quarter() {
        S.of(7, "The flow as it is seen when the plane is turned by a quarter against the clock:");
        // What went to the right goes upward, then to the left, downward, and to the right again.
        S.flow(1);
        S.due("quarter()", 1);
        S.dueFlow(0, 0, 0, 0, 0, 0, 1);
        S.make("quarter()");
        S.dueFlow(-1);
        S.make("quarter()");
        S.dueFlow(0, 0, 0, 0, 0, 0, -1);
        S.make("quarter()");
        S.dueFlow(1);
        S.of(7, "the new P at (x, y) is less the old Q at (y, -x), the new Q the old P there: 1.");
        S.flow(MIXED);
        S.due("quarter()", 1);
        // Old Q: -1 + 2 x - 4 y + x x + 3 x y - 2 y y; old P: 1 - 2 x + 3 y + 4 x x - 3 x y + 2 y y.
        S.dueFlow(1, -4, -2, 2, 3, -1, 1, -3, -2, 2, 3, 4);
    }

    private static void mirror() {
        S.of(8, "The flow as it is seen in a mirror:");
        S.flow(1, 0, 0, 0, 0, 0, 1);
        S.due("mirror()", 1);
        S.dueFlow(-1, 0, 0, 0, 0, 0, 1);
        S.of(8, "the new P at (x, y) is less the old P at (-x, y), the new Q the old Q there: 1.");
        S.flow(MIXED);
        S.due("mirror()", 1);
        S.dueFlow(-1, -2, -3, -4, -3, -2, -1, -2, -4, 1, -3, -2);
    }

    private static void move() {
        S.of(9, "The flow as it is seen from a place: the new P at (x, y) is the old P at (x + a, y + b), Q likewise: 1.");
        S.due("move(6, -6)", 1);
        S.dueFlow();
        S.flow(-4, 1, 0, 1, 0, 0, 2, 0, -1, 0, 1, 0);
        S.due("move(0, 0)", 1);
        S.dueFlow(-4, 1, 0, 1, 0, 0, 2, 0, -1, 0, 1, 0);
        S.due("move(1, 2)", 1);
        S.dueFlow(-2, 3, 0, 1, 0, 0, 2, 2, 0, 0, 1, 0);
        S.due("move(-1, -2)", 1);
        S.dueFlow(-4, 1, 0, 1, 0, 0, 2, 0, -1, 0, 1, 0);
        // It goes by the flow at hand, also where the latest act was refused or undone.
        S.anew();
        S.flow(0, 1, 0, 0, 0, 0, 0, 0, 0, 0, 1);
        S.make("put(false, 3, 4)");
        S.make("undo()");
        S.due("move(1, 1)", 1);
        S.dueFlow(1, 1, 0, 0, 0, 0, 1, 1, 1, 0, 1);
        S.due("move(6, 6)", Check.SIZE);
        S.due("move(1, 0)", 1);
        S.dueFlow(2, 1, 0, 0, 0, 0, 2, 1, 2, 0, 1);
        S.of(9, "BEYOND: (a, b) is no PLACE.");
        S.furnish();
        S.refusedWith("move(#, 0)", Check.BEYOND, Sentences.outside(-6, 6));
        S.refusedWith("move(0, #)", Check.BEYOND, Sentences.outside(-6, 6));
        S.anew();
        S.flow(3);
        S.due("move(-6, 6)", 1);
    }

    /** Each number that a move can change, of P and of Q, alone too large, and the last one that still fits. */
    private static void moveOverflows() {
        String[] signs = {"SIZE: a NUMBER would be below -4", "or above 4."};
        for (int below = 0; below < 2; below++) {
            S.of(9, signs[below]);
            int sign = below == 0 ? -1 : 1;
            for (int part = 0; part < 2; part++) {
                overflowsBy(part, 1, 1, "move(" + 5 * sign + ", 0)", "move(" + 4 * sign + ", 0)");
                overflowsBy(part, 2, 1, "move(0, " + 5 * sign + ")", "move(0, " + 4 * sign + ")");
                overflowsBy(part, 4, 1, "move(0, " + 5 * sign + ")", "move(0, " + 4 * sign + ")");
                overflowsBy(part, 4, 1, "move(" + 5 * sign + ", 0)", "move(" + 4 * sign + ", 0)");
                overflowsBy(part, 3, sign, "move(3, 0)", "move(2, 0)");
                overflowsBy(part, 5, sign, "move(0, 3)", "move(0, 2)");
            }
        }
        // Here the number before 1 fits, that before x does not: 4 + 5 x + x x, and -4 - 5 x - x x.
        S.anew();
        S.flow(0, 0, 0, 0, 0, 0, -2, 1, 0, 1);
        S.due("speed(2, 0, true)", 4);
        S.refused("move(2, 0)", Check.SIZE);
        S.due("move(1, 0)", 1);
        S.anew();
        S.flow(0, 0, 0, 0, 0, 0, 2, 1, 0, -1);
        S.due("speed(3, 0, true)", -4);
        S.refused("move(3, 0)", Check.SIZE);
        S.due("move(2, 0)", 1);
    }

    private static void overflowsBy(int part, int m, int v, String tooFar, String justSoFar) {
        String at = "(" + (part == 1) + ", " + m;
        S.anew();
        S.make("corner(1, 2)");
        S.make("put" + at + ", " + v + ")");
        S.refused(tooFar, Check.SIZE);
        S.due(justSoFar, 1);
        S.due("number" + at + ")", v);
    }

    private static void add() {
        S.of(10, "A slot's flow is added, times c: 1.");
        S.flow(1, 0, -1, 0, 1, 0, 0, 1, 0, -1, 0, 1);
        S.make("keep(3)");
        S.due("add(3, 0)", 1);
        S.dueFlow(1, 0, -1, 0, 1, 0, 0, 1, 0, -1, 0, 1);
        S.due("add(3, 3)", 1);
        S.dueFlow(4, 0, -4, 0, 4, 0, 0, 4, 0, -4, 0, 4);
        S.due("add(3, -4)", 1);
        S.dueFlow();
        S.due("add(3, 4)", 1);
        S.dueFlow(4, 0, -4, 0, 4, 0, 0, 4, 0, -4, 0, 4);
        S.due("as(3, 0)", 6);
        // It goes by the flow at hand, also where the latest act was refused or undone.
        S.due("undo()", 15);
        S.due("add(3, 1)", 1);
        S.dueFlow(1, 0, -1, 0, 1, 0, 0, 1, 0, -1, 0, 1);
        S.due("add(3, 4)", Check.SIZE);
        S.due("add(3, 1)", 1);
        S.dueFlow(2, 0, -2, 0, 2, 0, 0, 2, 0, -2, 0, 2);
        S.of(10, "BEYOND: no such slot");
        S.furnish();
        S.refusedWith("add(#, 0)", Check.BEYOND, Sentences.outside(0, 3));
        S.due("add(0, 1)", 1);
        S.make("keep(3)");
        S.due("add(3, 0)", 1);
        S.of(10, "or c is not -4 to 4.");
        S.furnish();
        S.refusedWith("add(0, #)", Check.BEYOND, Sentences.outside(-4, 4));
        // Asked before whether the slot has one.
        S.refused("add(1, 5)", Check.BEYOND);
        S.of(10, "NONE: it has none.");
        S.furnish();
        S.refused("add(1, 1)", Check.NONE);
        S.refused("add(3, 0)", Check.NONE);
        S.refused("add(3, -4)", Check.NONE);
    }

    private static void addOverflows() {
        S.of(10, "SIZE: as of move().");
        for (int i = 0; i < 12; i++) {
            String at = "(" + (i >= 6) + ", " + i % 6 + ", ";
            S.anew();
            S.make("put" + at + "1)");
            S.make("keep(1)");
            S.refused("add(1, 4)", Check.SIZE);
            S.due("add(1, 3)", 1);
            S.due("put" + at + "-1)", 4);
            S.refused("add(1, -4)", Check.SIZE);
            S.due("add(1, -3)", 1);
            S.due("put" + at + "4)", -4);
            S.refused("add(1, 1)", Check.SIZE);
        }
    }
}
