/** The sentences of promises 11 to 14, one by one: rests, rest, sort, sorts. */
public final class BoundaryRestsTest {
    private static final Sentences S = new Sentences("BoundaryRestsTest");
    /** P = x - y, Q = 0: a row of rests from corner to corner of all places. */
    private static final int[] ROW = {0, 1, -1};

    public static void main(String[] args) {
        rests();
        rest();
        sort();
        sorts();
        S.end(11, 14);
    }

    private static void rests() {
        S.of(11, "How many PLACES are RESTS.");
        S.due("rests()", 169);
        S.flow(1);
        S.due("rests()", 0);
        S.flow(0, 0, 0, 0, 0, 0, 1);
        S.due("rests()", 0);
        S.flow(ROW);
        S.due("rests()", 13);
        S.due("sorts(5)", 13);
        // P = x y - 4, Q = 2 x - y: rests at no whole place; with Q = x - y at two.
        S.flow(-4, 0, 0, 0, 1, 0, 0, 2, -1);
        S.due("rests()", 0);
        S.flow(-4, 0, 0, 0, 1, 0, 0, 1, -1);
        S.due("rests()", 2);
        // P = 4 - x + y, Q less that: from (-2, -6) to (6, 2); what is 0 farther off is no place.
        S.flow(4, -1, 1, 0, 0, 0, -4, 1, -1, 0, 0, 0);
        S.due("rests()", 9);
    }

    private static void rest() {
        S.of(12, "x (y) of RESTS i, by x, then by y.");
        for (int i = 0; i < 169; i += 12) {
            S.due("rest(" + i + ", false)", i / 13 - 6);
            S.due("rest(" + i + ", true)", i % 13 - 6);
        }
        S.flow(ROW);
        S.due("rest(0, false)", -6);
        S.due("rest(12, true)", 6);
        S.of(12, "NONE: there is none such.");
        S.refusedWith("rest(#, false)", Check.NONE, Sentences.outside(0, 168));
        S.furnish();
        S.flow(ROW);
        S.refusedWith("rest(#, true)", Check.NONE, Sentences.outside(0, 12));
        S.flow(1);
        S.refusedWith("rest(#, false)", Check.NONE, -1, 0, 1);
        S.anew();
        S.due("rest(168, false)", 6);
        S.due("rest(168, true)", 6);
    }

    private static void sort() {
        S.of(13, "The SORT of a REST.");
        S.due("sort(-6, 6)", 5);
        S.flow(-4, 0, 0, 1, 0, 0, -1, 0, 0, 0, 0, 1);
        S.due("sort(-2, -1)", 2);
        S.due("sort(-2, 1)", 1);
        S.due("sort(2, -1)", 1);
        S.due("sort(2, 1)", 2);
        S.of(13, "BEYOND: it is no PLACE.");
        S.furnish();
        S.refusedWith("sort(#, 0)", Check.BEYOND, Sentences.outside(-6, 6));
        S.refusedWith("sort(0, #)", Check.BEYOND, Sentences.outside(-6, 6));
        S.flow(ROW);
        S.refused("sort(7, 7)", Check.BEYOND);
        S.refused("sort(-7, -7)", Check.BEYOND);
        S.due("sort(6, 6)", 5);
        S.due("sort(-6, -6)", 5);
        S.of(13, "NONE: it is no REST.");
        S.furnish();
        S.flow(0, 1, 0, 0, 0, 0, 0, 0, 1);
        S.refused("sort(0, 1)", Check.NONE);
        S.refused("sort(1, 0)", Check.NONE);
        S.refused("sort(-6, 6)", Check.NONE);
        S.due("sort(0, 0)", 2);
    }

    private static void sorts() {
        S.of(14, "How many RESTS are of a SORT.");
        S.due("sorts(1)", 0);
        S.due("sorts(5)", 169);
        S.flow(-4, 0, 0, 1, 0, 0, -1, 0, 0, 0, 0, 1);
        S.due("sorts(1)", 2);
        S.due("sorts(2)", 2);
        S.due("sorts(3)", 0);
        S.due("sorts(4)", 0);
        S.due("sorts(5)", 0);
        // P = y, Q = x x - 1: even at (-1, 0), a saddle at (1, 0); with -y added to Q a spiral in place of even.
        S.flow(0, 0, 1, 0, 0, 0, -1, 0, 0, 1);
        S.due("sorts(4)", 1);
        S.due("sorts(1)", 1);
        S.make("put(true, 2, -1)");
        S.due("sorts(3)", 1);
        S.due("sorts(4)", 0);
        S.of(14, "BEYOND: there is no such sort.");
        S.furnish();
        S.refusedWith("sorts(#)", Check.BEYOND, Sentences.outside(1, 5));
    }
}
