import java.util.ArrayList;
import java.util.List;

/** All that can be seen of an object's state, by calls that use it up. */
final class Probe {
    private final FlowPlane plane;
    private final List<String> seen = new ArrayList<>();

    private Probe(FlowPlane plane) {
        this.plane = plane;
    }

    /** Each call with its answer; two objects in one state tell the same. */
    static List<String> of(FlowPlane plane) {
        Probe probe = new Probe(plane);
        probe.flowAndFence();
        probe.past();
        probe.slots();
        probe.sheets();
        return probe.seen;
    }

    private int ask(String call) {
        int answer = Calls.byText(plane, call);
        seen.add(call + " " + answer);
        return answer;
    }

    private void numbers(int many) {
        for (int i = 0; i < many; i++) {
            ask("number(" + (i >= 6) + ", " + i % 6 + ")");
        }
    }

    private void flowAndFence() {
        numbers(12);
        for (int what = 0; what < 3; what++) {
            ask("told(" + what + ")");
        }
        ask("simple(false)");
        ask("simple(true)");
        ask("area()");
        ask("wind()");
        for (int piece = 0; piece < 8; piece++) {
            ask("across(" + piece + ")");
            ask("turns(" + piece + ")");
        }
    }

    private void past() {
        for (int i = 0; i <= 25; i++) {
            if (ask("undo()") == Check.NONE) {
                return;
            }
            ask("told(0)");
            ask("area()");
            ask("told(1)");
            ask("speed(1, 2, false)");
            ask("speed(-2, 3, true)");
        }
    }

    private void slots() {
        for (int slot = 0; slot < 4; slot++) {
            if (ask("bring(" + slot + ")") != Check.NONE) {
                numbers(12);
            }
        }
    }

    private void sheets() {
        for (int s = 0; s < 4; s++) {
            if (ask("lay(" + s + ")") == Check.MISSING) {
                continue;
            }
            numbers(12);
            ask("copy(" + s + ", 12, " + s + ", 0, 4)");
            ask("lay(" + s + ")");
            numbers(4);
            for (int i = 0; i <= 16; i++) {
                ask("write(" + s + ", " + i + ", 0)");
            }
            width(s, 256 + 1);
            width(s, 65536 + 2);
        }
    }

    /** How wide a sheet's numbers are shows in what they keep of a large one. */
    private void width(int s, int v) {
        ask("write(" + s + ", 0, " + v + ")");
        ask("lay(" + s + ")");
        ask("number(false, 0)");
    }
}
