/** The sentences of promises 31 to 39, one by one: keep, bring, as, sheet, write, copy, lay, undo, told. */
public final class BoundarySlotsTest {
    private static final Sentences S = new Sentences("BoundarySlotsTest");
    private static final int[] PLAIN = {0, 1, 0, 1};
    private static final int[] LINEAR = {1, 1};
    private static final int[] CENTRAL = {0, 1, 2};
    private static final int[] FREE = {0, 1, 0, 0, 0, 0, 0, 0, -1};

    public static void main(String[] args) {
        keep();
        bring();
        as();
        asRefused();
        sheet();
        sheetRefused();
        write();
        copy();
        copyRefused();
        lay();
        layRefused();
        undo();
        undoAtItsEnds();
        told();
        S.end(31, 39);
    }

    private static void keep() {
        S.of(31, "The flow is kept in a slot: its KIND.");
        S.due("keep(0)", 3);
        S.flow(CENTRAL);
        S.due("keep(3)", 2);
        S.flow(PLAIN);
        S.due("keep(0)", 0);
        S.due("told(2)", 2);
        S.flow(LINEAR);
        S.due("keep(1)", 1);
        // What becomes of the flow later does not come to the slot.
        S.flow(FREE);
        S.due("bring(0)", 0);
        S.dueFlow(PLAIN);
        S.due("bring(3)", 2);
        S.dueFlow(CENTRAL);
        S.of(31, "BEYOND.");
        S.furnish();
        S.refusedWith("keep(#)", Check.BEYOND, Sentences.outside(0, 3));
    }

    private static void bring() {
        S.of(32, "The flow is that of a slot: its KIND.");
        int[][] flows = {PLAIN, LINEAR, CENTRAL, FREE};
        for (int slot = 0; slot < 4; slot++) {
            S.flow(flows[slot]);
            S.make("keep(" + slot + ")");
        }
        for (int slot = 0; slot < 4; slot++) {
            S.due("bring(" + slot + ")", slot);
            S.dueFlow(flows[slot]);
            // The slot keeps its own.
            S.make("put(true, 5, 4)");
            S.due("bring(" + slot + ")", slot);
            S.dueFlow(flows[slot]);
        }
        S.of(32, "BEYOND.");
        S.furnish();
        S.refusedWith("bring(#)", Check.BEYOND, Sentences.outside(0, 3));
        S.of(32, "NONE: it has none.");
        S.furnish();
        S.refusedWith("bring(#)", Check.NONE, 1, 3);
        S.make("keep(3)");
        S.due("bring(3)", 0);
    }

    private static void dueAs(int numbers, String kinds, int... flow) {
        S.anew();
        S.flow(flow);
        S.make("keep(2)");
        // It goes by the slot's flow, not by the one that is at hand.
        S.make("back()");
        S.make("put(false, 5, 4)");
        for (int kind = 0; kind < 4; kind++) {
            boolean fine = kinds.indexOf((char) ('0' + kind)) >= 0;
            S.due("as(2, " + kind + ")", fine ? numbers : Check.KIND);
        }
    }

    private static void as() {
        S.of(33, "A slot's flow as one of a KIND: how many of its NUMBERS are not 0.");
        dueAs(0, "03");
        dueAs(12, "0", 4, 4, 4, 4, 4, 4, -4, -4, -4, -4, -4, -3);
        dueAs(2, "01", LINEAR);
        dueAs(2, "012", CENTRAL);
        S.of(33, "KIND: it is not of that kind, nor of one under it.");
        dueAs(2, "0", PLAIN);
        dueAs(1, "0", 0, 0, 0, 0, 0, 0, 0, 0, 0, 0, 0, 1);
        dueAs(2, "01", 0, 1, 0, 0, 0, 0, -1);
        // FREE is not under LINEAR, nor under CENTRAL, whatever else the flow is.
        dueAs(1, "03", 1);
        dueAs(2, "03", FREE);
        dueAs(5, "03", 0, 0, 0, 1, 2, 3, 0, 0, 0, 0, -2, -1);
        S.refusedWith("as(2, #)", Check.KIND, 1, 2);
    }

    private static void asRefused() {
        S.of(33, "BEYOND: no such slot");
        S.furnish();
        S.refusedWith("as(#, 0)", Check.BEYOND, Sentences.outside(0, 3));
        S.of(33, "or kind is not 0 to 3.");
        S.furnish();
        S.refusedWith("as(0, #)", Check.BEYOND, Sentences.outside(0, 3));
        // Asked before whether the slot has one.
        S.refused("as(1, 4)", Check.BEYOND);
        S.of(33, "NONE: it has none.");
        S.furnish();
        S.refusedWith("as(#, 0)", Check.NONE, 1, 3);
        S.refusedWith("as(1, #)", Check.NONE, 0, 1, 2, 3);
    }

    private static void sheet() {
        S.of(34, "A sheet has n numbers, all 0, of 8, 16 or 32 bits;");
        for (int bits : new int[] {8, 16, 32}) {
            S.anew();
            S.due("sheet(3, " + bits + ", 16)", 16);
            S.due("write(3, 15, 1)", 0);
            S.due("write(3, 16, 1)", Check.BEYOND);
            S.make("write(3, 0, 1)");
            S.due("sheet(3, " + bits + ", 13)", 13);
            S.due("copy(3, 12, 3, 1, 1)", 1);
            S.due("lay(3)", 12);
            S.dueFlow();
            S.due("sheet(3, " + bits + ", 1)", 1);
            S.due("write(3, 1, 0)", Check.BEYOND);
            // A sheet of none is not MISSING.
            S.due("sheet(0, " + bits + ", 0)", 0);
            S.due("write(0, 0, 0)", Check.BEYOND);
            S.due("lay(0)", 0);
        }
        dueWritten(8, 256 + 1, 1);
        dueWritten(16, 65536 + 1, 1);
        dueWritten(32, 65536 + 1, Check.BEYOND);
        S.of(34, "bits 0: it is MISSING: n (0).");
        S.due("sheet(1, 0, 0)", 0);
        S.due("lay(1)", Check.MISSING);
        S.make("sheet(1, 8, 4)");
        S.due("write(1, 0, 1)", 0);
        S.due("sheet(1, 0, 0)", 0);
        S.due("write(1, 0, 1)", Check.MISSING);
        S.due("lay(1)", Check.MISSING);
        S.make("sheet(1, 8, 4)");
        S.due("sheet(1, 0, 16)", 0);
        S.due("write(1, 0, 1)", Check.MISSING);
        // What it had is gone.
        S.make("sheet(1, 8, 4)");
        S.due("lay(1)", 4);
        S.dueFlow();
    }

    private static void sheetRefused() {
        S.of(34, "BEYOND: no such sheet");
        S.furnish();
        S.refusedWith("sheet(#, 8, 1)", Check.BEYOND, Sentences.outside(0, 3));
        S.refused("sheet(4, 8, -1)", Check.BEYOND);
        S.of(34, "or bits.");
        S.furnish();
        S.refusedWith("sheet(0, #, 1)", Check.BEYOND, -32, -16, -8, -1, 1, 7, 9, 15, 17, 24, 31, 33, 64);
        S.refusedWith("sheet(0, #, 1)", Check.BEYOND, Check.WILD);
        // Asked before n.
        S.refused("sheet(0, 9, -1)", Check.BEYOND);
        S.of(34, "SIZE: n is below 0.");
        S.furnish();
        S.refusedWith("sheet(0, 8, #)", Check.SIZE, -1, -2, -17, -1000000, Integer.MIN_VALUE);
        S.refusedWith("sheet(3, 32, #)", Check.SIZE, -1, Integer.MIN_VALUE);
        S.refusedWith("sheet(1, 0, #)", Check.SIZE, -1, Integer.MIN_VALUE);
        S.of(34, "BEYOND: n is above 16.");
        S.furnish();
        S.refusedWith("sheet(0, 8, #)", Check.BEYOND, 17, 18, 1000000, Integer.MAX_VALUE);
        S.refusedWith("sheet(3, 32, #)", Check.BEYOND, 17, Integer.MAX_VALUE);
        S.refusedWith("sheet(1, 0, #)", Check.BEYOND, 17, Integer.MAX_VALUE);
    }

    /** A number of so many bits, written and then laid: what the flow has, or the finding. */
    private static void dueWritten(int bits, int v, int want) {
        S.anew();
        S.make("sheet(2, " + bits + ", 1)");
        S.due("write(2, 0, " + v + ")", 0);
        if (want == Check.BEYOND) {
            S.refused("lay(2)", Check.BEYOND);
        } else {
            S.due("lay(2)", 1);
            S.dueFlow(want);
        }
    }

    private static void write() {
        S.of(35, "Number i of a sheet becomes v (its lowest bits): 0.");
        dueWritten(8, 256 + 4, 4);
        dueWritten(8, 255, -1);
        dueWritten(8, 252, -4);
        dueWritten(8, 251, Check.BEYOND);
        dueWritten(8, 128, Check.BEYOND);
        dueWritten(8, 127, Check.BEYOND);
        dueWritten(8, Integer.MIN_VALUE, 0);
        dueWritten(8, Integer.MAX_VALUE, -1);
        dueWritten(16, 255, Check.BEYOND);
        dueWritten(16, 256, Check.BEYOND);
        dueWritten(16, 65535, -1);
        dueWritten(16, 32768, Check.BEYOND);
        dueWritten(16, 7 * 65536 - 4, -4);
        dueWritten(16, Integer.MIN_VALUE, 0);
        dueWritten(16, Integer.MAX_VALUE, -1);
        dueWritten(32, 65536, Check.BEYOND);
        dueWritten(32, 65535, Check.BEYOND);
        dueWritten(32, -4, -4);
        dueWritten(32, Integer.MIN_VALUE, Check.BEYOND);
        dueWritten(32, Integer.MAX_VALUE, Check.BEYOND);
        S.anew();
        S.make("sheet(0, 8, 12)");
        S.due("write(0, 0, -4)", 0);
        S.due("write(0, 11, 4)", 0);
        S.make("lay(0)");
        S.dueFlow(-4, 0, 0, 0, 0, 0, 0, 0, 0, 0, 0, 4);
        S.of(35, "BEYOND: no such sheet.");
        S.furnish();
        S.refusedWith("write(#, 0, 1)", Check.BEYOND, Sentences.outside(0, 3));
        S.of(35, "MISSING.");
        S.furnish();
        S.refused("write(3, 0, 1)", Check.MISSING);
        // Told before a number that it has not.
        S.refusedWith("write(3, #, 1)", Check.MISSING, -1, 16, 17);
        S.of(35, "BEYOND: no such number.");
        S.furnish();
        S.refusedWith("write(0, #, 1)", Check.BEYOND, Sentences.outside(0, 15));
        S.refusedWith("write(1, #, 1)", Check.BEYOND, Sentences.outside(0, 4));
        S.make("sheet(1, 16, 0)");
        S.refusedWith("write(1, #, 1)", Check.BEYOND, -1, 0, 1);
        S.make("sheet(0, 8, 2)");
        S.refusedWith("write(0, #, 1)", Check.BEYOND, -1, 2, 15);
    }

    /** Sheet 0 of 9 numbers -4 to 4. */
    private static void counted(int bits) {
        S.anew();
        S.make("sheet(0, " + bits + ", 9)");
        for (int i = 0; i < 9; i++) {
            S.make("write(0, " + i + ", " + (i - 4) + ")");
        }
    }

    private static void copy() {
        S.of(36, "n numbers of a sheet from one on come to another one from one on: n.");
        for (int bits : new int[] {8, 16, 32}) {
            counted(bits);
            S.make("sheet(3, " + bits + ", 4)");
            S.due("copy(0, 5, 3, 0, 4)", 4);
            S.due("lay(3)", 4);
            S.dueFlow(1, 2, 3, 4);
            S.due("copy(0, 0, 3, 3, 1)", 1);
            S.due("lay(3)", 4);
            S.dueFlow(1, 2, 3, -4);
            // Where they came from they stay.
            S.due("lay(0)", 9);
            S.dueFlow(-4, -3, -2, -1, 0, 1, 2, 3, 4);
        }
        // None at all, from and to the very end; all of it to itself; over one another, either way.
        counted(8);
        S.make("sheet(1, 8, 0)");
        S.due("copy(0, 9, 1, 0, 0)", 0);
        S.due("copy(1, 0, 0, 9, 0)", 0);
        S.due("copy(0, 0, 0, 0, 9)", 9);
        S.due("lay(0)", 9);
        S.dueFlow(-4, -3, -2, -1, 0, 1, 2, 3, 4);
        S.due("copy(0, 0, 0, 1, 8)", 8);
        S.due("lay(0)", 9);
        S.dueFlow(-4, -4, -3, -2, -1, 0, 1, 2, 3);
        S.due("copy(0, 2, 0, 0, 7)", 7);
        S.due("lay(0)", 9);
        S.dueFlow(-3, -2, -1, 0, 1, 2, 3, 2, 3);
    }

    private static void copyRefused() {
        S.of(36, "BEYOND: no such sheet (either).");
        S.furnish();
        S.refusedWith("copy(#, 0, 0, 0, 0)", Check.BEYOND, Sentences.outside(0, 3));
        S.refusedWith("copy(0, 0, #, 0, 0)", Check.BEYOND, Sentences.outside(0, 3));
        S.refused("copy(3, 0, 4, 0, 0)", Check.BEYOND);
        S.refused("copy(4, 0, 3, 0, 0)", Check.BEYOND);
        S.of(36, "MISSING: one is.");
        S.furnish();
        S.refused("copy(3, 0, 0, 0, 0)", Check.MISSING);
        S.refused("copy(0, 0, 3, 0, 0)", Check.MISSING);
        S.refused("copy(3, 0, 3, 0, 0)", Check.MISSING);
        // Told before how many there are.
        S.refused("copy(3, -1, 0, 0, 17)", Check.MISSING);
        S.of(36, "KIND: they are not of as many bits.");
        S.furnish();
        S.refused("copy(0, 0, 1, 0, 1)", Check.KIND);
        S.refused("copy(1, 0, 2, 0, 1)", Check.KIND);
        S.refused("copy(2, 0, 0, 0, 0)", Check.KIND);
        S.refused("copy(0, -1, 1, 0, 17)", Check.KIND);
        S.of(36, "BEYOND: one has not so many");
        S.furnish();
        S.make("sheet(3, 8, 4)");
        S.refused("copy(0, 0, 3, 0, 5)", Check.BEYOND);
        S.refused("copy(3, 0, 0, 0, 5)", Check.BEYOND);
        S.refused("copy(0, 13, 3, 0, 4)", Check.BEYOND);
        S.refused("copy(0, 0, 3, 1, 4)", Check.BEYOND);
        S.refused("copy(0, 16, 3, 0, 1)", Check.BEYOND);
        S.refused("copy(0, 17, 3, 0, 0)", Check.BEYOND);
        S.refused("copy(0, 0, 3, 5, 0)", Check.BEYOND);
        S.refusedWith("copy(0, 0, 3, 0, #)", Check.BEYOND, 100, Integer.MAX_VALUE);
        S.refusedWith("copy(0, #, 3, 0, 1)", Check.BEYOND, 100, Integer.MAX_VALUE);
        S.refusedWith("copy(0, 0, 3, #, 1)", Check.BEYOND, 100, Integer.MAX_VALUE);
        S.refused("copy(0, 2147483647, 3, 2147483647, 2147483647)", Check.BEYOND);
        S.due("copy(0, 12, 3, 0, 4)", 4);
        S.due("copy(3, 0, 0, 12, 4)", 4);
        S.of(36, "or from, to or n is below 0.");
        S.furnish();
        S.refusedWith("copy(0, #, 0, 1, 1)", Check.BEYOND, -1, -16, Integer.MIN_VALUE);
        S.refusedWith("copy(0, 1, 0, #, 1)", Check.BEYOND, -1, -16, Integer.MIN_VALUE);
        S.refusedWith("copy(0, 1, 0, 0, #)", Check.BEYOND, -1, -16, Integer.MIN_VALUE);
        S.refused("copy(0, -1, 0, 0, 0)", Check.BEYOND);
        S.refused("copy(0, 0, 0, -1, 0)", Check.BEYOND);
    }

    /** Sheet 1 with the numbers 1, 2, 3, 4, 1, 2, 3, 4 .. from its first on. */
    private static void laid(int n) {
        S.anew();
        S.flow(-1, -1, -1, -1, -1, -1, -1, -1, -1, -1, -1, -1);
        S.make("sheet(1, 16, " + n + ")");
        for (int i = 0; i < n; i++) {
            S.make("write(1, " + i + ", " + (i % 4 + 1) + ")");
        }
    }

    private static void lay() {
        S.of(37, "The flow becomes what a sheet tells: P's six NUMBERS, then Q's");
        laid(12);
        S.due("lay(1)", 12);
        S.dueFlow(1, 2, 3, 4, 1, 2, 3, 4, 1, 2, 3, 4);
        S.of(37, "(what it has beyond is not looked at;");
        laid(16);
        S.make("write(1, 12, 5)");
        S.make("write(1, 15, -32768)");
        S.due("lay(1)", 12);
        S.dueFlow(1, 2, 3, 4, 1, 2, 3, 4, 1, 2, 3, 4);
        S.of(37, "what it has not is 0)");
        laid(0);
        S.due("lay(1)", 0);
        S.dueFlow();
        laid(1);
        S.due("lay(1)", 1);
        S.dueFlow(1);
        laid(6);
        S.due("lay(1)", 6);
        S.dueFlow(1, 2, 3, 4, 1, 2);
        laid(11);
        S.due("lay(1)", 11);
        S.dueFlow(1, 2, 3, 4, 1, 2, 3, 4, 1, 2, 3);
        // Of a sheet that was longer, too.
        laid(12);
        S.make("sheet(1, 16, 2)");
        S.make("write(1, 1, 3)");
        S.due("lay(1)", 2);
        S.dueFlow(0, 3);
        S.of(37, "how many were there.");
        for (int n = 0; n <= 16; n++) {
            laid(n);
            S.due("lay(1)", Math.min(n, 12));
        }
    }

    private static void layRefused() {
        S.of(37, "BEYOND: no such sheet.");
        S.furnish();
        S.refusedWith("lay(#)", Check.BEYOND, Sentences.outside(0, 3));
        S.of(37, "MISSING.");
        S.furnish();
        S.refused("lay(3)", Check.MISSING);
        S.make("sheet(0, 0, 0)");
        S.refused("lay(0)", Check.MISSING);
        S.of(37, "BEYOND: one of them is not -4 to 4.");
        for (int i = 0; i < 12; i++) {
            laid(12);
            for (int v : new int[] {5, -5, 32767, -32768}) {
                S.make("write(1, " + i + ", " + v + ")");
                S.refused("lay(1)", Check.BEYOND);
            }
            S.make("write(1, " + i + ", -4)");
            S.due("lay(1)", 12);
        }
    }

    /** An act by which the flow becomes another one, and its undoing. */
    private static void dueUndone(String act, int answer, int... changed) {
        int[] before = {1, -2, 0, 0, 1, 0, 0, 1};
        S.anew();
        S.make("sheet(0, 8, 2)");
        S.make("write(0, 1, 3)");
        S.make("put(false, 2, 2)");
        S.make("keep(1)");
        S.make("put(false, 2, 0)");
        S.make("corner(3, 3)");
        S.make("put(false, 0, 1)");
        S.make("put(false, 1, -2)");
        S.make("put(false, 4, 1)");
        S.make("put(true, 1, 1)");
        S.dueFlow(before);
        S.due(act, answer);
        S.dueFlow(changed);
        S.due("undo()", 7);
        S.dueFlow(before);
        S.due("told(0)", 1);
        S.refused("corner(3, 3)", Check.SIZE);
        S.due("undo()", 6);
        S.dueFlow(1, -2, 0, 0, 1);
    }

    private static void undo() {
        S.of(38, "The latest act that changed the flow or THE FENCE (put, back, quarter, mirror, move, add, corner, open, "
            + "bring, lay,");
        dueUndone("put(true, 5, 4)", 0, 1, -2, 0, 0, 1, 0, 0, 1, 0, 0, 0, 4);
        dueUndone("back()", 1, -1, 2, 0, 0, -1, 0, 0, -1);
        dueUndone("quarter()", 1, 0, 0, -1, 0, 0, 0, 1, 0, -2, 0, -1);
        dueUndone("mirror()", 1, -1, -2, 0, 0, 1, 0, 0, -1);
        dueUndone("move(1, 2)", 1, 1, 0, 1, 0, 1, 0, 1, 1);
        dueUndone("add(1, -2)", 1, 1, -2, -4, 0, 1, 0, 0, 1);
        dueUndone("corner(3, 4)", 2, 1, -2, 0, 0, 1, 0, 0, 1);
        dueUndone("open()", 1, 1, -2, 0, 0, 1, 0, 0, 1);
        dueUndone("bring(1)", 3, 0, 0, 2);
        dueUndone("lay(0)", 2, 0, 3);
        dueFenceUndone();
        // Slots and sheets are no part of it.
        S.anew();
        S.make("put(true, 3, 2)");
        S.make("sheet(2, 8, 3)");
        S.make("write(2, 0, 1)");
        S.make("keep(0)");
        S.due("undo()", 0);
        S.due("told(2)", 1);
        S.due("as(0, 0)", 1);
        S.due("lay(2)", 3);
        S.dueFlow(1);
        S.of(38, "without a finding) is undone");
        S.make("put(false, 0, 1)");
        String[] refused = {"put(false, 0, 5)", "move(7, 0)", "add(0, 1)", "add(9, 1)", "corner(7, 7)", "bring(0)", "lay(0)",
            "lay(9)", "rest(500, true)", "wind()", "held(true)"};
        for (String call : refused) {
            S.make(call);
        }
        S.due("told(3)", refused.length);
        S.due("undo()", 0);
        S.dueFlow();
        S.due("told(3)", refused.length);
    }

    /** A full fence comes back corner by corner, though others stood in its place. */
    private static void dueFenceUndone() {
        S.anew();
        S.flow(0, 1, 2, 0, 0, 0, 3, 0, -1);
        S.fence(-5, -4, 4, -6, 6, 3, 5, 5, 1, 2, -2, 6, -6, 5, -4, 1);
        S.due("simple(true)", 1);
        int area = S.make("area()");
        int wind = S.make("wind()");
        int[] across = new int[8];
        for (int k = 0; k < 8; k++) {
            across[k] = S.make("across(" + k + ")");
        }
        S.fence(1, 1, 2, 2, 3, 3, 4, 4, 5, 5, 6, 6, 0, 6, 0, 1);
        for (int i = 0; i < 9; i++) {
            S.make("undo()");
        }
        S.due("told(0)", 8);
        S.due("simple(true)", 1);
        S.due("area()", area);
        S.due("wind()", wind);
        for (int k = 0; k < 8; k++) {
            S.due("across(" + k + ")", across[k]);
        }
        S.refused("corner(-4, 1)", Check.SIZE);
        S.refused("corner(-4, 2)", Check.FULL);
    }

    private static void undoAtItsEnds() {
        S.of(38, "how many more can be.");
        S.make("corner(1, 1)");
        S.make("put(false, 0, 1)");
        S.make("back()");
        S.due("undo()", 2);
        S.due("undo()", 1);
        S.due("undo()", 0);
        S.of(38, "NONE.");
        S.refused("undo()", Check.NONE);
        S.make("keep(0)");
        S.make("sheet(0, 8, 1)");
        S.make("rests()");
        S.refused("undo()", Check.NONE);
        S.make("open()");
        S.due("undo()", 0);
        S.refused("undo()", Check.NONE);
        S.of(38, "(The latest 25 are kept;");
        dueDepth(24, 24, true);
        dueDepth(25, 25, true);
        dueDepth(26, 25, false);
        dueDepth(60, 25, false);
        S.of(38, "also such as changed nothing.)");
        String[] still = {"put(false, 0, 0)", "back()", "quarter()", "mirror()", "move(0, 0)", "add(2, 0)", "open()", "bring(2)",
            "lay(0)"};
        S.make("keep(2)");
        S.make("sheet(0, 8, 0)");
        for (String call : still) {
            S.make(call);
        }
        S.dueFlow();
        for (int i = still.length - 1; i >= 0; i--) {
            S.due("undo()", i);
        }
        // They take the room of such as did: the first act is lost.
        S.make("put(false, 0, 1)");
        for (int i = 0; i < 25; i++) {
            S.make("open()");
        }
        for (int i = 24; i >= 0; i--) {
            S.due("undo()", i);
        }
        S.refused("undo()", Check.NONE);
        S.due("number(false, 0)", 1);
    }

    /** So many acts, each with another number; so many of them can be undone, and then the first number stands or not. */
    private static void dueDepth(int acts, int kept, boolean toTheFirst) {
        S.anew();
        for (int i = 1; i <= acts; i++) {
            S.make("put(true, 2, " + (i % 9 - 4) + ")");
        }
        for (int i = 1; i <= kept; i++) {
            S.due("undo()", kept - i);
            int at = acts - i;
            S.due("number(true, 2)", at == 0 ? 0 : at % 9 - 4);
        }
        S.refused("undo()", Check.NONE);
        S.due("told(1)", toTheFirst || (acts - kept) % 9 == 4 ? 0 : 1);
        // What is undone makes room again.
        S.due("put(true, 2, 0)", toTheFirst ? 0 : (acts - kept) % 9 - 4);
        S.due("undo()", 0);
    }

    private static void told() {
        S.of(39, "0 CORNERS");
        S.due("told(0)", 0);
        S.fence(0, 0, 1, 0, 2, 0, 3, 0, 4, 0, 5, 0, 6, 0, 6, 1);
        S.due("told(0)", 8);
        S.make("corner(0, 0)");
        S.due("told(0)", 8);
        S.make("undo()");
        S.due("told(0)", 7);
        S.make("open()");
        S.due("told(0)", 0);
        S.of(39, "1 NUMBERS that are not 0");
        S.due("told(1)", 0);
        S.flow(-4, -3, -2, -1, 1, 2, 3, 4, 1, -1, 2, -2);
        S.due("told(1)", 12);
        S.make("put(true, 0, 0)");
        S.make("put(false, 5, 0)");
        S.due("told(1)", 10);
        S.of(39, "2 slots that have one");
        S.due("told(2)", 0);
        for (int slot = 3; slot >= 0; slot--) {
            S.make("keep(" + slot + ")");
            S.make("keep(" + slot + ")");
            S.due("told(2)", 4 - slot);
        }
        S.make("undo()");
        S.make("keep(4)");
        S.due("told(2)", 4);
        S.of(39, "3 how many acts answered a finding ever");
        S.due("told(3)", 0);
        S.make("wind()");
        S.make("corner(7, 0)");
        S.due("told(3)", 2);
        S.make("put(false, 0, 1)");
        S.due("undo()", 0);
        S.make("open()");
        S.due("told(3)", 2);
        S.make("undo()");
        S.due("undo()", Check.NONE);
        S.due("told(3)", 3);
        S.due("told(3)", 3);
        S.of(39, "(this one, too, if it does).");
        S.due("told(-1)", Check.BEYOND);
        S.due("told(3)", 1);
        S.due("told(4)", Check.BEYOND);
        S.due("told(3)", 2);
        S.of(39, "BEYOND: another what.");
        S.furnish();
        S.refusedWith("told(#)", Check.BEYOND, Sentences.outside(0, 3));
    }
}
