/** Promises 31 to 39: keep, bring, as, sheet, write, copy, lay, undo, told. */
public final class SlotsTest {
    private static final Check CHECK = new Check("SlotsTest");

    public static void main(String[] args) {
        kinds();
        keepAndBring();
        slotsRefused();
        sheetSizes();
        writeKeepsTheLowestBits();
        writeRefused();
        copyWithinAndBetween();
        copyRefused();
        lay();
        undoOfEachAct();
        undoKeepsTheLatest();
        told();
        CHECK.end();
    }

    private static void dueKind(String what, int kind, String asKinds, int... flow) {
        FlowPlane plane = Check.flow(flow);
        CHECK.due("keep " + what, plane.keep(1), kind);
        CHECK.due("bring " + what, plane.bring(1), kind);
        for (int k = 0; k < 4; k++) {
            int want = asKinds.indexOf((char) ('0' + k)) >= 0 ? plane.told(1) : Check.KIND;
            CHECK.due(what + " as " + k, plane.as(1, k), want);
        }
    }

    private static void kinds() {
        dueKind("plain", 0, "0", 0, 1, 0, 1);
        dueKind("plain by Q alone", 0, "0", 0, 1, 0, 0, 0, 0, 0, 0, 0, 0, 0, 1);
        dueKind("linear", 1, "01", 1, 1);
        dueKind("linear by Q alone", 1, "01", 0, 1, 0, 0, 0, 0, -1);
        dueKind("central", 2, "012", 0, 1, 3, 0, 0, 0, 0, 2, 1);
        dueKind("free and central", 3, "03", 0, 1, 3, 0, 0, 0, 0, 2, -1);
        dueKind("free of nothing", 3, "03", 0);
        dueKind("free and constant", 3, "03", 1);
        dueKind("free with squares", 3, "03", 0, 0, 0, 1, 2, 3, 0, 0, 0, 4, -2, -1);
        dueKind("not free before x", 0, "0", 0, 0, 0, 1, 2, 3, 0, 0, 0, 4, -1, -1);
        dueKind("not free before y", 0, "0", 0, 0, 0, 1, 2, 3, 0, 0, 0, 4, -2, 1);
        dueKind("not free before 1", 0, "0", 0, 0, 1, 1, 2, 3, 0, 0, 1, 4, -2, -1);
    }

    private static void keepAndBring() {
        FlowPlane plane = Check.flow(1, 2, 3, 4, -1, -2, 0, 1, 0, 1, 0, 1);
        for (int s = 0; s < 4; s++) {
            plane.put(true, 0, s);
            CHECK.due("keep " + s, plane.keep(s), 0);
            CHECK.due("slots that have one", plane.told(2), s + 1);
        }
        CHECK.due("keep again", plane.keep(3), 0);
        CHECK.due("slots that have one", plane.told(2), 4);
        Check.setFlow(plane, 0);
        for (int s = 0; s < 4; s++) {
            CHECK.due("bring " + s, plane.bring(s), 0);
            CHECK.dueNumbers("bring " + s, plane, 1, 2, 3, 4, -1, -2, s, 1, 0, 1, 0, 1);
        }
        // What is done to the flow is not done to the slot it came from.
        plane.put(false, 0, -4);
        plane.bring(3);
        CHECK.due("a slot of its own", plane.number(false, 0), 1);
        CHECK.due("as counts numbers", plane.as(0, 0), 9);
        CHECK.due("as counts numbers", plane.as(1, 0), 10);
    }

    private static void slotsRefused() {
        FlowPlane plane = Check.flow(1, 1);
        CHECK.due("keep -1", plane.keep(-1), Check.BEYOND);
        CHECK.due("keep 4", plane.keep(4), Check.BEYOND);
        CHECK.due("bring -1", plane.bring(-1), Check.BEYOND);
        CHECK.due("bring 4", plane.bring(4), Check.BEYOND);
        CHECK.due("bring empty", plane.bring(0), Check.NONE);
        CHECK.due("as empty", plane.as(0, 0), Check.NONE);
        CHECK.due("as beyond before none", plane.as(0, 4), Check.BEYOND);
        CHECK.due("as beyond before none", plane.as(0, -1), Check.BEYOND);
        CHECK.due("as slot beyond", plane.as(4, 0), Check.BEYOND);
        CHECK.due("as slot beyond", plane.as(-1, 0), Check.BEYOND);
        for (int wild : Check.WILD) {
            CHECK.due("keep wild", plane.keep(wild), Check.BEYOND);
            CHECK.due("bring wild", plane.bring(wild), Check.BEYOND);
            CHECK.due("as wild slot", plane.as(wild, 0), Check.BEYOND);
            CHECK.due("as wild kind", plane.as(0, wild), Check.BEYOND);
        }
        CHECK.due("no slot has one", plane.told(2), 0);
        CHECK.dueNumbers("findings change nothing", plane, 1, 1);
    }

    private static void sheetSizes() {
        FlowPlane plane = new FlowPlane();
        CHECK.due("sheet 8", plane.sheet(0, 8, 16), 16);
        CHECK.due("sheet 16", plane.sheet(1, 16, 0), 0);
        CHECK.due("an empty sheet is not missing", plane.lay(1), 0);
        CHECK.due("sheet 32", plane.sheet(3, 32, 7), 7);
        CHECK.due("sheet s -1", plane.sheet(-1, 8, 1), Check.BEYOND);
        CHECK.due("sheet s 4", plane.sheet(4, 8, 1), Check.BEYOND);
        CHECK.due("bits 7", plane.sheet(0, 7, 1), Check.BEYOND);
        CHECK.due("bits 64", plane.sheet(0, 64, 1), Check.BEYOND);
        CHECK.due("bits before n", plane.sheet(0, 24, -1), Check.BEYOND);
        CHECK.due("n -1", plane.sheet(0, 8, -1), Check.SIZE);
        CHECK.due("n 17", plane.sheet(0, 8, 17), Check.BEYOND);
        for (int wild : Check.WILD) {
            CHECK.due("sheet s wild", plane.sheet(wild, 8, 1), Check.BEYOND);
            CHECK.due("sheet bits wild", plane.sheet(0, wild, 1), Check.BEYOND);
            CHECK.due("sheet n wild", plane.sheet(0, 8, wild), wild < 0 ? Check.SIZE : Check.BEYOND);
        }
        CHECK.due("findings change nothing", plane.write(0, 15, 1), 0);
        CHECK.due("sheet anew", plane.sheet(0, 8, 16), 16);
        plane.lay(0);
        CHECK.dueNumbers("all 0", plane);
        CHECK.due("bits 0", plane.sheet(0, 0, 5), 0);
        CHECK.due("now missing", plane.write(0, 0, 0), Check.MISSING);
        CHECK.due("bits 0 again", plane.sheet(0, 0, 0), 0);
        CHECK.due("bits 0, n -1", plane.sheet(3, 0, -1), Check.SIZE);
        CHECK.due("bits 0, n 17", plane.sheet(3, 0, 17), Check.BEYOND);
        CHECK.due("still there", plane.write(3, 6, 0), 0);
    }

    private static void dueWritten(int bits, int v, int want) {
        FlowPlane plane = new FlowPlane();
        plane.sheet(2, bits, 1);
        CHECK.due("write " + v, plane.write(2, 0, v), 0);
        boolean fits = want >= -4 && want <= 4;
        CHECK.due("lay " + v + " of " + bits, plane.lay(2), fits ? 1 : Check.BEYOND);
        CHECK.due("written " + v + " of " + bits, plane.number(false, 0), fits ? want : 0);
    }

    private static void writeKeepsTheLowestBits() {
        dueWritten(8, 256 + 3, 3);
        dueWritten(8, 255, -1);
        dueWritten(8, 252, -4);
        dueWritten(8, 128, -128);
        dueWritten(8, -256, 0);
        dueWritten(16, 256 + 3, 259);
        dueWritten(16, 65536 * 7 + 4, 4);
        dueWritten(16, 65535, -1);
        dueWritten(16, 255, 255);
        dueWritten(32, 65536 + 1, 65537);
        dueWritten(32, -4, -4);
        dueWritten(32, Integer.MIN_VALUE, Integer.MIN_VALUE);
        dueWritten(16, Integer.MIN_VALUE, 0);
        dueWritten(8, Integer.MAX_VALUE, -1);
    }

    private static void writeRefused() {
        FlowPlane plane = new FlowPlane();
        CHECK.due("write no sheet", plane.write(-1, 0, 0), Check.BEYOND);
        CHECK.due("write no sheet", plane.write(4, 0, 0), Check.BEYOND);
        CHECK.due("write missing before no such number", plane.write(0, -1, 0), Check.MISSING);
        plane.sheet(0, 8, 3);
        CHECK.due("write -1", plane.write(0, -1, 0), Check.BEYOND);
        CHECK.due("write 3", plane.write(0, 3, 0), Check.BEYOND);
        CHECK.due("write 2", plane.write(0, 2, 0), 0);
        plane.sheet(0, 8, 16);
        plane.sheet(0, 8, 2);
        CHECK.due("write 2 of a sheet that was longer", plane.write(0, 2, 0), Check.BEYOND);
        for (int wild : Check.WILD) {
            CHECK.due("write s wild", plane.write(wild, 0, 0), Check.BEYOND);
            CHECK.due("write i wild", plane.write(0, wild, 0), Check.BEYOND);
        }
    }

    private static FlowPlane counted(int bits) {
        FlowPlane plane = new FlowPlane();
        plane.sheet(0, bits, 9);
        for (int i = 0; i < 9; i++) {
            plane.write(0, i, i - 4);
        }
        return plane;
    }

    private static void copyWithinAndBetween() {
        FlowPlane plane = counted(16);
        plane.sheet(1, 16, 4);
        CHECK.due("copy", plane.copy(0, 5, 1, 1, 3), 3);
        plane.lay(1);
        CHECK.dueNumbers("copy", plane, 0, 1, 2, 3);
        CHECK.due("copy all", plane.copy(0, 0, 1, 0, 4), 4);
        plane.lay(1);
        CHECK.dueNumbers("copy all", plane, -4, -3, -2, -1);
        CHECK.due("copy none at the end", plane.copy(0, 9, 1, 4, 0), 0);
        // The numbers come as they were, upward and downward.
        FlowPlane up = counted(8);
        CHECK.due("copy up", up.copy(0, 0, 0, 2, 7), 7);
        up.lay(0);
        CHECK.dueNumbers("copy up", up, -4, -3, -4, -3, -2, -1, 0, 1, 2);
        FlowPlane down = counted(32);
        CHECK.due("copy down", down.copy(0, 2, 0, 0, 7), 7);
        down.lay(0);
        CHECK.dueNumbers("copy down", down, -2, -1, 0, 1, 2, 3, 4, 3, 4);
    }

    private static void copyRefused() {
        FlowPlane plane = counted(8);
        plane.sheet(1, 8, 4);
        plane.sheet(2, 16, 4);
        CHECK.due("no sheet", plane.copy(-1, 0, 1, 0, 1), Check.BEYOND);
        CHECK.due("no sheet", plane.copy(0, 0, 4, 0, 1), Check.BEYOND);
        CHECK.due("no sheet before missing", plane.copy(3, 0, 4, 0, 1), Check.BEYOND);
        CHECK.due("from missing", plane.copy(3, 0, 0, 0, 1), Check.MISSING);
        CHECK.due("to missing before beyond", plane.copy(0, -1, 3, 0, 1), Check.MISSING);
        CHECK.due("kind before beyond", plane.copy(0, -1, 2, 0, 1), Check.KIND);
        CHECK.due("from -1", plane.copy(0, -1, 1, 0, 1), Check.BEYOND);
        CHECK.due("to -1", plane.copy(0, 0, 1, -1, 1), Check.BEYOND);
        CHECK.due("n -1", plane.copy(0, 1, 1, 1, -1), Check.BEYOND);
        CHECK.due("from too far", plane.copy(0, 8, 1, 0, 2), Check.BEYOND);
        CHECK.due("to too far", plane.copy(0, 0, 1, 3, 2), Check.BEYOND);
        CHECK.due("none from too far", plane.copy(0, 10, 1, 0, 0), Check.BEYOND);
        CHECK.due("none to too far", plane.copy(0, 0, 1, 5, 0), Check.BEYOND);
        for (int wild : Check.WILD) {
            CHECK.due("s wild", plane.copy(wild, 0, 1, 0, 1), Check.BEYOND);
            CHECK.due("t wild", plane.copy(0, 0, wild, 0, 1), Check.BEYOND);
            CHECK.due("from wild", plane.copy(0, wild, 1, 0, 1), Check.BEYOND);
            CHECK.due("to wild", plane.copy(0, 0, 1, wild, 1), Check.BEYOND);
            CHECK.due("n wild", plane.copy(0, 0, 1, 0, wild), Check.BEYOND);
            CHECK.due("all wild", plane.copy(0, wild, 1, wild, wild), Check.BEYOND);
        }
        plane.lay(1);
        CHECK.dueNumbers("findings change nothing", plane);
    }

    private static void lay() {
        FlowPlane plane = Check.flow(1, 1, 1, 1, 1, 1, 1, 1, 1, 1, 1, 1);
        CHECK.due("lay -1", plane.lay(-1), Check.BEYOND);
        CHECK.due("lay 4", plane.lay(4), Check.BEYOND);
        CHECK.due("lay missing", plane.lay(0), Check.MISSING);
        plane.sheet(0, 32, 16);
        for (int i = 0; i < 12; i++) {
            plane.write(0, i, i % 9 - 4);
        }
        plane.write(0, 12, 1000);
        CHECK.due("lay 16", plane.lay(0), 12);
        CHECK.dueNumbers("lay 16", plane, -4, -3, -2, -1, 0, 1, 2, 3, 4, -4, -3, -2);
        plane.write(0, 11, 5);
        CHECK.due("lay beyond", plane.lay(0), Check.BEYOND);
        CHECK.dueNumbers("a finding changes nothing", plane, -4, -3, -2, -1, 0, 1, 2, 3, 4, -4, -3, -2);
        plane.write(0, 11, -5);
        CHECK.due("lay beyond", plane.lay(0), Check.BEYOND);
        plane.sheet(1, 8, 7);
        plane.write(1, 6, 2);
        CHECK.due("lay 7", plane.lay(1), 7);
        CHECK.dueNumbers("lay 7", plane, 0, 0, 0, 0, 0, 0, 2);
        for (int wild : Check.WILD) {
            CHECK.due("lay wild", plane.lay(wild), Check.BEYOND);
        }
    }

    private static void undoOfEachAct() {
        FlowPlane plane = new FlowPlane();
        plane.sheet(0, 8, 2);
        plane.write(0, 1, 3);
        CHECK.due("sheets are not undone", plane.undo(), Check.NONE);
        CHECK.due("put", plane.put(false, 1, 2), 0);
        plane.keep(0);
        CHECK.due("slots are not undone", plane.undo(), 0);
        CHECK.due("no more", plane.undo(), Check.NONE);
        plane.bring(0);
        plane.back();
        plane.quarter();
        plane.mirror();
        plane.move(1, 0);
        plane.add(0, 1);
        plane.lay(0);
        plane.corner(1, 1);
        plane.corner(2, 2);
        plane.open();
        // What answers a finding, and what only tells, is not undone.
        plane.corner(9, 9);
        plane.move(9, 9);
        plane.add(3, 1);
        plane.rests();
        plane.told(0);
        CHECK.due("told", plane.told(0), 0);
        CHECK.due("undo open", plane.undo(), 9);
        CHECK.due("told", plane.told(0), 2);
        CHECK.due("area is as it was", plane.corner(0, 2), 3);
        CHECK.due("area", plane.area(), 2);
        CHECK.due("undo", plane.undo(), 9);
        CHECK.due("undo corner", plane.undo(), 8);
        CHECK.due("told", plane.told(0), 1);
        CHECK.due("the latest is the one before", plane.corner(1, 1), Check.SIZE);
        CHECK.due("undo corner", plane.undo(), 7);
        CHECK.dueNumbers("lay", plane, 0, 3);
        CHECK.due("undo lay", plane.undo(), 6);
        CHECK.dueNumbers("add", plane, 0, 2, 0, 0, 0, 0, 0, 0, -2);
        CHECK.due("undo add", plane.undo(), 5);
        CHECK.dueNumbers("move", plane, 0, 0, 0, 0, 0, 0, 0, 0, -2);
        CHECK.due("undo move", plane.undo(), 4);
        CHECK.dueNumbers("mirror", plane, 0, 0, 0, 0, 0, 0, 0, 0, -2);
        CHECK.due("undo mirror", plane.undo(), 3);
        CHECK.dueNumbers("quarter", plane, 0, 0, 0, 0, 0, 0, 0, 0, -2);
        CHECK.due("undo quarter", plane.undo(), 2);
        CHECK.dueNumbers("back", plane, 0, -2);
        CHECK.due("undo back", plane.undo(), 1);
        CHECK.dueNumbers("bring", plane, 0, 2);
        CHECK.due("undo bring", plane.undo(), 0);
        CHECK.dueNumbers("undo bring", plane, 0);
        CHECK.due("no more", plane.undo(), Check.NONE);
        CHECK.due("slots are not undone", plane.told(2), 1);
    }

    private static void undoKeepsTheLatest() {
        FlowPlane plane = new FlowPlane();
        for (int i = 0; i < 30; i++) {
            plane.put(false, 0, i % 9 - 4);
        }
        for (int i = 0; i < 25; i++) {
            CHECK.due("undo " + i, plane.undo(), 24 - i);
            CHECK.due("number after undo " + i, plane.number(false, 0), (28 - i) % 9 - 4);
        }
        CHECK.due("no more than 25", plane.undo(), Check.NONE);
        CHECK.due("and nothing changed", plane.number(false, 0), 4 % 9 - 4);
        // Acts that changed nothing count, and undone ones give their room back.
        FlowPlane still = new FlowPlane();
        for (int i = 0; i < 40; i++) {
            still.open();
        }
        CHECK.due("25 that changed nothing", still.undo(), 24);
        still.back();
        still.put(true, 5, 0);
        CHECK.due("25 again", still.undo(), 24);
        CHECK.due("24", still.undo(), 23);
    }

    private static void told() {
        FlowPlane plane = new FlowPlane();
        CHECK.due("told 4", plane.told(4), Check.BEYOND);
        CHECK.due("told -1", plane.told(-1), Check.BEYOND);
        CHECK.due("both are told", plane.told(3), 2);
        for (int wild : Check.WILD) {
            CHECK.due("told wild", plane.told(wild), Check.BEYOND);
        }
        CHECK.due("all are told", plane.told(3), 2 + Check.WILD.length);
        plane.put(false, 5, 1);
        plane.put(true, 0, -1);
        plane.put(true, 1, 4);
        plane.put(true, 1, 0);
        plane.corner(1, 1);
        plane.keep(2);
        CHECK.due("corners", plane.told(0), 1);
        CHECK.due("numbers", plane.told(1), 2);
        CHECK.due("slots", plane.told(2), 1);
        plane.undo();
        CHECK.due("findings stay told", plane.told(3), 2 + Check.WILD.length);
    }
}
