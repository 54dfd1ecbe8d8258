import java.util.ArrayList;
import java.util.Arrays;
import java.util.List;
import java.util.stream.IntStream;

/**
 * Tests of the document's sentences, one by one. A sentence is begun by its promise and its very words; the calls
 * that follow go to an object of its own. At the end each sentence must have been asked something, and no word of
 * the promises that a test is for may be left without a sentence.
 */
final class Sentences {
    private static final int MOST_CALLS = 512;

    private final Check check;
    private final Document document = new Document();
    private String sentence = "";
    private boolean asked = true;
    private FlowPlane plane = new FlowPlane();
    /** What the object has been asked: by it a twin in the same state is made. */
    private List<String> calls = new ArrayList<>();

    Sentences(String name) {
        check = new Check(name);
    }

    /** Begins a sentence; promise 0 stands for the terms. */
    void of(int promise, String words) {
        check.holds(sentence + " is asked something", asked);
        sentence = (promise == Document.TERMS ? "terms" : "promise " + promise) + " \"" + words + "\"";
        check.holds(sentence + " stands in the document", document.quote(promise, words));
        asked = false;
        anew();
    }

    /** A new object, within the same sentence. */
    void anew() {
        plane = new FlowPlane();
        calls = new ArrayList<>();
    }

    /** A call that only brings the object where the sentence wants it. */
    int make(String call) {
        calls.add(call);
        check.holds(sentence + " keeps to the calls an object has", calls.size() <= MOST_CALLS);
        return Calls.byText(plane, call);
    }

    void due(String call, int want) {
        asked = true;
        check.due(sentence + " after " + tail() + ": " + call, make(call), want);
    }

    private String tail() {
        int from = Math.max(0, calls.size() - 6);
        return (from > 0 ? ".. " : "") + calls.subList(from, calls.size());
    }

    /** The call answers a finding, which is counted, and changes nothing; the object itself is not asked. */
    void refused(String call, int finding) {
        FlowPlane one = twin();
        FlowPlane other = twin();
        asked = true;
        String what = sentence + " after " + tail() + ": " + call;
        check.due(what, Calls.byText(one, call), finding);
        check.due(what + ", then told(3)", one.told(3), other.told(3) + 1);
        List<String> seen = Probe.of(one);
        check.holds(what + " keeps to the calls an object has", calls.size() + 2 + seen.size() <= MOST_CALLS);
        check.holds(what + " changes nothing", seen.equals(Probe.of(other)));
    }

    private FlowPlane twin() {
        FlowPlane twin = new FlowPlane();
        for (String call : calls) {
            Calls.byText(twin, call);
        }
        return twin;
    }

    /** The call is refused with each number in place of the sign #. */
    void refusedWith(String call, int finding, int... numbers) {
        for (int v : numbers) {
            refused(call.replace("#", Integer.toString(v)), finding);
        }
    }

    /** The numbers just outside a range, and far outside. */
    static int[] outside(int low, int high) {
        IntStream beside = IntStream.of(low - 1, high + 1);
        IntStream far = Arrays.stream(Check.WILD).filter(v -> v < low || v > high);
        return IntStream.concat(beside, far).toArray();
    }

    /** The object's flow, P's six numbers first; what is not told is 0. */
    void flow(int... numbers) {
        for (int i = 0; i < 12; i++) {
            make("put(" + (i >= 6) + ", " + i % 6 + ", " + (i < numbers.length ? numbers[i] : 0) + ")");
        }
    }

    /** The object's fence, x and y of each corner in turn. */
    void fence(int... places) {
        make("open()");
        for (int i = 0; i + 1 < places.length; i += 2) {
            make("corner(" + places[i] + ", " + places[i + 1] + ")");
        }
    }

    void dueFlow(int... numbers) {
        for (int i = 0; i < 12; i++) {
            due("number(" + (i >= 6) + ", " + i % 6 + ")", i < numbers.length ? numbers[i] : 0);
        }
    }

    /** An object that has something of everything, so that a change would be seen. */
    void furnish() {
        String[] furniture = {"sheet(0, 8, 16)", "write(0, 0, 3)", "write(0, 7, -2)", "write(0, 13, 4)", "sheet(1, 16, 5)",
            "write(1, 4, -4)", "sheet(2, 32, 12)", "write(2, 11, 1)", "put(false, 1, 2)", "put(true, 2, -1)", "keep(0)",
            "put(false, 5, 1)", "put(true, 0, 1)", "keep(2)", "corner(-2, -2)", "corner(3, -1)", "corner(2, 4)",
            "corner(-1, 3)", "put(false, 0, -3)"};
        for (String call : furniture) {
            make(call);
        }
    }

    /** The end of a test that is for the promises first to last. */
    void end(int first, int last) {
        check.holds(sentence + " is asked something", asked);
        for (int n = first; n <= last; n++) {
            String left = document.unquoted(n);
            check.holds("promise " + n + " has words without a test: " + left, left.isEmpty());
        }
        check.end();
    }
}
