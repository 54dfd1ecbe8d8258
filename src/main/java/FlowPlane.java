/**
 * A bench for flows of two numbers in a plane, told by whole polynomials.
 *
 * Every row that a call needs is made in the constructor and used again, so
 * that no call makes an object: all calls of a run share one room.
 */
public final class FlowPlane {
    private static final int BEYOND = -1000001;
    private static final int MISSING = -1000002;
    private static final int SIZE = -1000003;
    private static final int KIND = -1000004;
    private static final int FULL = -1000005;
    private static final int NONE = -1000006;
    private static final int REST = -1000007;

    private static final int FARTHEST = 6;
    private static final int LARGEST = 4;
    private static final int LARGEST_IN_SUM = 9;
    private static final int NUMBERS = 6;
    private static final int SUM_NUMBERS = 5;
    private static final int CHANGE_NUMBERS = 10;
    private static final int MOST_CORNERS = 8;
    private static final int SLOTS = 4;
    private static final int SHEETS = 4;
    private static final int MOST_ON_SHEET = 16;
    private static final int MOST_UNDONE = 25;

    private static final int SADDLE = 1;
    private static final int NODE = 2;
    private static final int SPIRAL = 3;
    private static final int EVEN = 4;
    private static final int BLUNT = 5;

    private static final int OUTSIDE = 0;
    private static final int ON_PIECE = 1;
    private static final int INSIDE = 2;

    private static final int EVERYWHERE = 3;
    private static final int ALL_LINES = 4;

    private static final int NO_KIND = -1;
    private static final int PLAIN = 0;
    private static final int LINEAR = 1;
    private static final int CENTRAL = 2;
    private static final int FREE = 3;
    /** The kind that each kind is directly under. */
    private static final int[] ABOVE = {NO_KIND, PLAIN, LINEAR, PLAIN};

    /** Where 1, x, y, x x, x y, y y stand among the ten once multiplied by x, and by y. */
    private static final int[] TIMES_X = {1, 3, 4, 6, 7, 8};
    private static final int[] TIMES_Y = {2, 4, 5, 7, 8, 9};

    private final Flow flow;
    /** What the flow would become: it is looked at before it is taken, as a finding must change nothing. */
    private final Flow draft;
    private final Fence fence;
    private final Past past;
    private final Flow[] slots;
    private final int[] slotKinds;
    private final Sheet[] sheets;
    private final Quadratic speedX;
    private final Quadratic speedY;
    private final Quadratic leftward;
    private final int[] change;
    private final Table table;
    private int findings;

    public FlowPlane() {
        flow = new Flow();
        draft = new Flow();
        fence = new Fence();
        past = new Past();
        slots = new Flow[SLOTS];
        slotKinds = new int[SLOTS];
        for (int i = 0; i < SLOTS; i++) {
            slots[i] = new Flow();
            slotKinds[i] = NO_KIND;
        }
        sheets = new Sheet[SHEETS];
        for (int i = 0; i < SHEETS; i++) {
            sheets[i] = new Sheet();
        }
        speedX = new Quadratic();
        speedY = new Quadratic();
        leftward = new Quadratic();
        change = new int[CHANGE_NUMBERS];
        table = new Table();
        findings = 0;
    }

    // ---- the flow

    public int put(boolean ofQ, int m, int v) {
        if (!isNumberIndex(m) || !isWithin(v, LARGEST)) {
            return finding(BEYOND);
        }
        draft.become(flow);
        int[] numbers = draft.part(ofQ).numbers;
        int was = numbers[m];
        numbers[m] = v;
        return takeDraft(was);
    }

    public int number(boolean ofQ, int m) {
        if (!isNumberIndex(m)) {
            return finding(BEYOND);
        }
        return flow.part(ofQ).numbers[m];
    }

    public int speed(int x, int y, boolean ofQ) {
        if (!isPlace(x, y)) {
            return finding(BEYOND);
        }
        return flow.part(ofQ).at(x, y);
    }

    public int slope(int x, int y, int what) {
        if (!isPlace(x, y) || what < 0 || what > 3) {
            return finding(BEYOND);
        }
        Polynomial part = flow.part(what >= 2);
        return what % 2 == 0 ? part.byX(x, y) : part.byY(x, y);
    }

    public int back() {
        draft.p.negatedFrom(flow.p);
        draft.q.negatedFrom(flow.q);
        return takeDraft(1);
    }

    public int quarter() {
        draft.p.turnedFrom(flow.q, -1);
        draft.q.turnedFrom(flow.p, 1);
        return takeDraft(1);
    }

    public int mirror() {
        draft.p.mirroredFrom(flow.p, -1);
        draft.q.mirroredFrom(flow.q, 1);
        return takeDraft(1);
    }

    public int move(int a, int b) {
        if (!isPlace(a, b)) {
            return finding(BEYOND);
        }
        draft.p.movedFrom(flow.p, a, b);
        draft.q.movedFrom(flow.q, a, b);
        return takeDraftIfItFits();
    }

    public int add(int slot, int c) {
        if (!isSlot(slot) || !isWithin(c, LARGEST)) {
            return finding(BEYOND);
        }
        if (slotKinds[slot] == NO_KIND) {
            return finding(NONE);
        }
        draft.become(flow);
        draft.p.increase(slots[slot].p, c);
        draft.q.increase(slots[slot].q, c);
        return takeDraftIfItFits();
    }

    // ---- rests

    public int rests() {
        int count = 0;
        for (int x = -FARTHEST; x <= FARTHEST; x++) {
            for (int y = -FARTHEST; y <= FARTHEST; y++) {
                if (flow.isRest(x, y)) {
                    count++;
                }
            }
        }
        return count;
    }

    public int rest(int i, boolean ofY) {
        int before = 0;
        for (int x = -FARTHEST; x <= FARTHEST; x++) {
            for (int y = -FARTHEST; y <= FARTHEST; y++) {
                if (!flow.isRest(x, y)) {
                    continue;
                }
                if (before == i) {
                    return ofY ? y : x;
                }
                before++;
            }
        }
        return finding(NONE);
    }

    public int sort(int x, int y) {
        if (!isPlace(x, y)) {
            return finding(BEYOND);
        }
        if (!flow.isRest(x, y)) {
            return finding(NONE);
        }
        return flow.sortAt(x, y);
    }

    public int sorts(int sort) {
        if (sort < SADDLE || sort > BLUNT) {
            return finding(BEYOND);
        }
        int count = 0;
        for (int x = -FARTHEST; x <= FARTHEST; x++) {
            for (int y = -FARTHEST; y <= FARTHEST; y++) {
                if (flow.isRest(x, y) && flow.sortAt(x, y) == sort) {
                    count++;
                }
            }
        }
        return count;
    }

    // ---- the fence

    public int corner(int x, int y) {
        if (!isPlace(x, y)) {
            return finding(BEYOND);
        }
        if (fence.isLatest(x, y)) {
            return finding(SIZE);
        }
        if (fence.count >= MOST_CORNERS) {
            return finding(FULL);
        }
        past.remember(flow, fence);
        fence.append(x, y);
        return fence.count;
    }

    public int open() {
        int had = fence.count;
        past.remember(flow, fence);
        fence.count = 0;
        return had;
    }

    public int simple(boolean left) {
        boolean holds = left ? fence.isLeft() : fence.isSimple();
        return holds ? 1 : 0;
    }

    public int area() {
        return fence.doubleArea();
    }

    public int within(int x, int y) {
        if (!isPlace(x, y)) {
            return finding(BEYOND);
        }
        if (!fence.isSimple()) {
            return finding(KIND);
        }
        return fence.whereIs(x, y);
    }

    public int across(int piece) {
        int refusal = refusalOfPiece(piece);
        if (refusal != 0) {
            return finding(refusal);
        }
        return signAcross(piece);
    }

    public int turns(int piece) {
        int refusal = refusalOfPiece(piece);
        if (refusal != 0) {
            return finding(refusal);
        }
        followAcross(piece);
        return leftward.zerosOnPiece();
    }

    public int held(boolean out) {
        if (!fence.isLeft()) {
            return finding(KIND);
        }
        int wanted = out ? -1 : 1;
        for (int k = 0; k < fence.count; k++) {
            if (signAcross(k) != wanted) {
                return 0;
            }
        }
        return 1;
    }

    public int wind() {
        if (fence.count < 2) {
            return finding(NONE);
        }
        int rounds = 0;
        for (int k = 0; k < fence.count; k++) {
            followSpeeds(k);
            if (speedY.meetsZeroOf(speedX)) {
                return finding(REST);
            }
            rounds += speedY.upwardCrossings(speedX);
        }
        return rounds;
    }

    public int indexes() {
        if (!fence.isSimple()) {
            return finding(KIND);
        }
        int sum = 0;
        for (int x = -FARTHEST; x <= FARTHEST; x++) {
            for (int y = -FARTHEST; y <= FARTHEST; y++) {
                if (!flow.isRest(x, y) || fence.whereIs(x, y) != INSIDE) {
                    continue;
                }
                int sort = flow.sortAt(x, y);
                if (sort == BLUNT) {
                    return finding(NONE);
                }
                sum += sort == SADDLE ? -1 : 1;
            }
        }
        return sum;
    }

    // ---- sums, boxes, the edge

    public int along(int a, int b, int c, int d, int e, int m) {
        if (!isSum(a, b, c, d, e) || m < 0 || m >= CHANGE_NUMBERS) {
            return finding(BEYOND);
        }
        clearChange();
        addChange(flow.p, a, 2 * c, d);
        addChange(flow.q, b, d, 2 * e);
        return change[m];
    }

    public int falls(int a, int b, int c, int d, int e, int x, int y) {
        if (!isSum(a, b, c, d, e) || !isPlace(x, y)) {
            return finding(BEYOND);
        }
        int byX = a + 2 * c * x + d * y;
        int byY = b + d * x + 2 * e * y;
        return byX * flow.p.at(x, y) + byY * flow.q.at(x, y);
    }

    public int kept() {
        for (int i = 0; i < SUM_NUMBERS; i++) {
            clearChange();
            addChange(flow.p, oneIf(i == 0), 2 * oneIf(i == 2), oneIf(i == 3));
            addChange(flow.q, oneIf(i == 1), oneIf(i == 3), 2 * oneIf(i == 4));
            table.fillRow(i, change);
        }
        return SUM_NUMBERS - table.rank();
    }

    public int none(int a, int b, int c, int d) {
        if (!isPlace(a, b) || !isPlace(c, d) || a >= c || b >= d) {
            return finding(BEYOND);
        }
        // The spread has no squares, so its extremes over a box stand at the corners.
        int ab = flow.spreadAt(a, b);
        int ad = flow.spreadAt(a, d);
        int cb = flow.spreadAt(c, b);
        int cd = flow.spreadAt(c, d);
        int low = Math.min(Math.min(ab, ad), Math.min(cb, cd));
        int high = Math.max(Math.max(ab, ad), Math.max(cb, cd));
        if (low >= 0 && high > 0) {
            return 1;
        }
        return high <= 0 && low < 0 ? -1 : 0;
    }

    public int edge() {
        int[] p = flow.p.numbers;
        int[] q = flow.q.numbers;
        return linesOfCubic(q[3], q[4] - p[3], q[5] - p[4], -p[5]);
    }

    public int far(int x, int y) {
        if (!isPlace(x, y) || (x == 0 && y == 0)) {
            return finding(BEYOND);
        }
        int form = x * flow.q.squaresAt(x, y) - y * flow.p.squaresAt(x, y);
        return form == 0 ? 1 : 0;
    }

    // ---- slots, sheets

    public int keep(int slot) {
        if (!isSlot(slot)) {
            return finding(BEYOND);
        }
        slots[slot].become(flow);
        slotKinds[slot] = flow.lastKind();
        return slotKinds[slot];
    }

    public int bring(int slot) {
        if (!isSlot(slot)) {
            return finding(BEYOND);
        }
        if (slotKinds[slot] == NO_KIND) {
            return finding(NONE);
        }
        draft.become(slots[slot]);
        return takeDraft(slotKinds[slot]);
    }

    public int as(int slot, int kind) {
        if (!isSlot(slot) || kind < PLAIN || kind > FREE) {
            return finding(BEYOND);
        }
        if (slotKinds[slot] == NO_KIND) {
            return finding(NONE);
        }
        if (!isUnder(slotKinds[slot], kind)) {
            return finding(KIND);
        }
        return slots[slot].countNotZero();
    }

    public int sheet(int s, int bits, int n) {
        if (!isSheet(s) || !isBits(bits)) {
            return finding(BEYOND);
        }
        if (n < 0) {
            return finding(SIZE);
        }
        if (n > MOST_ON_SHEET) {
            return finding(BEYOND);
        }
        sheets[s].begin(bits, bits == 0 ? 0 : n);
        return sheets[s].size;
    }

    public int write(int s, int i, int v) {
        if (!isSheet(s)) {
            return finding(BEYOND);
        }
        Sheet sheet = sheets[s];
        if (sheet.isMissing()) {
            return finding(MISSING);
        }
        if (i < 0 || i >= sheet.size) {
            return finding(BEYOND);
        }
        sheet.numbers[i] = sheet.lowestBits(v);
        return 0;
    }

    public int copy(int s, int from, int t, int to, int n) {
        if (!isSheet(s) || !isSheet(t)) {
            return finding(BEYOND);
        }
        Sheet source = sheets[s];
        Sheet target = sheets[t];
        if (source.isMissing() || target.isMissing()) {
            return finding(MISSING);
        }
        if (source.bits != target.bits) {
            return finding(KIND);
        }
        if (!source.hasRange(from, n) || !target.hasRange(to, n)) {
            return finding(BEYOND);
        }
        System.arraycopy(source.numbers, from, target.numbers, to, n);
        return n;
    }

    public int lay(int s) {
        if (!isSheet(s)) {
            return finding(BEYOND);
        }
        Sheet sheet = sheets[s];
        if (sheet.isMissing()) {
            return finding(MISSING);
        }
        for (int i = 0; i < 2 * NUMBERS; i++) {
            // A sheet may be shorter than a flow: what it has not is 0.
            int v = i < sheet.size ? sheet.numbers[i] : 0;
            draft.part(i >= NUMBERS).numbers[i % NUMBERS] = v;
        }
        if (!draft.fits()) {
            return finding(BEYOND);
        }
        return takeDraft(Math.min(sheet.size, 2 * NUMBERS));
    }

    public int undo() {
        if (past.count == 0) {
            return finding(NONE);
        }
        past.bringBack(flow, fence);
        return past.count;
    }

    public int told(int what) {
        switch (what) {
            case 0:
                return fence.count;
            case 1:
                return flow.countNotZero();
            case 2:
                return countFilledSlots();
            case 3:
                return findings;
            default:
                return finding(BEYOND);
        }
    }

    // ---- what the calls share

    private int finding(int which) {
        findings++;
        return which;
    }

    private int takeDraft(int answer) {
        past.remember(flow, fence);
        flow.become(draft);
        return answer;
    }

    private int takeDraftIfItFits() {
        return draft.fits() ? takeDraft(1) : finding(SIZE);
    }

    /** The finding that stands against asking how speeds go across a piece, or 0. */
    private int refusalOfPiece(int piece) {
        if (piece < 0 || piece >= fence.count) {
            return BEYOND;
        }
        return fence.stepX(piece) == 0 && fence.stepY(piece) == 0 ? SIZE : 0;
    }

    private void followSpeeds(int piece) {
        speedX.follow(flow.p, fence, piece);
        speedY.follow(flow.q, fence, piece);
    }

    private void followAcross(int piece) {
        followSpeeds(piece);
        leftward.combine(fence.stepX(piece), speedY, -fence.stepY(piece), speedX);
    }

    private int signAcross(int piece) {
        followAcross(piece);
        // Where it is 0 nowhere on the piece, its sign at the start is its sign all along.
        return leftward.zerosOnPiece() > 0 ? 0 : Long.signum(leftward.c);
    }

    private void clearChange() {
        for (int i = 0; i < CHANGE_NUMBERS; i++) {
            change[i] = 0;
        }
    }

    /** Adds a polynomial times (k + kx x + ky y) to the change. */
    private void addChange(Polynomial part, int k, int kx, int ky) {
        for (int m = 0; m < NUMBERS; m++) {
            int v = part.numbers[m];
            change[m] += k * v;
            change[TIMES_X[m]] += kx * v;
            change[TIMES_Y[m]] += ky * v;
        }
    }

    private int countFilledSlots() {
        int count = 0;
        for (int i = 0; i < SLOTS; i++) {
            if (slotKinds[i] != NO_KIND) {
                count++;
            }
        }
        return count;
    }

    /**
     * How many lines through (0, 0) there are on which
     * a x x x + b x x y + c x y y + d y y y is 0.
     * The discriminant is that of the form, so a line on which x or y is 0 needs no case of its own.
     */
    private static int linesOfCubic(int a, int b, int c, int d) {
        if (a == 0 && b == 0 && c == 0 && d == 0) {
            return ALL_LINES;
        }
        int discriminant = b * b * c * c - 4 * a * c * c * c - 4 * b * b * b * d
                - 27 * a * a * d * d + 18 * a * b * c * d;
        if (discriminant != 0) {
            return discriminant > 0 ? 3 : 1;
        }
        boolean threefold = b * b == 3 * a * c && c * c == 3 * b * d && b * c == 9 * a * d;
        return threefold ? 1 : 2;
    }

    private static boolean isUnder(int kind, int wanted) {
        int at = kind;
        for (int step = 0; step < ABOVE.length && at >= 0 && at < ABOVE.length; step++) {
            if (at == wanted) {
                return true;
            }
            at = ABOVE[at];
        }
        return false;
    }

    private static int oneIf(boolean holds) {
        return holds ? 1 : 0;
    }

    private static boolean isWithin(int v, int most) {
        return v >= -most && v <= most;
    }

    private static boolean isPlace(int x, int y) {
        return isWithin(x, FARTHEST) && isWithin(y, FARTHEST);
    }

    private static boolean isSum(int a, int b, int c, int d, int e) {
        return isWithin(a, LARGEST_IN_SUM) && isWithin(b, LARGEST_IN_SUM) && isWithin(c, LARGEST_IN_SUM)
                && isWithin(d, LARGEST_IN_SUM) && isWithin(e, LARGEST_IN_SUM);
    }

    private static boolean isNumberIndex(int m) {
        return m >= 0 && m < NUMBERS;
    }

    private static boolean isSlot(int slot) {
        return slot >= 0 && slot < SLOTS;
    }

    private static boolean isSheet(int s) {
        return s >= 0 && s < SHEETS;
    }

    private static boolean isBits(int bits) {
        return bits == 0 || bits == 8 || bits == 16 || bits == 32;
    }

    /** Numbers before 1, x, y, x x, x y, y y. */
    private static final class Polynomial {
        final int[] numbers = new int[NUMBERS];

        int at(int x, int y) {
            return numbers[0] + numbers[1] * x + numbers[2] * y + squaresAt(x, y);
        }

        int squaresAt(int x, int y) {
            return numbers[3] * x * x + numbers[4] * x * y + numbers[5] * y * y;
        }

        int byX(int x, int y) {
            return numbers[1] + 2 * numbers[3] * x + numbers[4] * y;
        }

        int byY(int x, int y) {
            return numbers[2] + numbers[4] * x + 2 * numbers[5] * y;
        }

        boolean hasSquares() {
            return numbers[3] != 0 || numbers[4] != 0 || numbers[5] != 0;
        }

        boolean fits() {
            for (int m = 0; m < NUMBERS; m++) {
                if (!isWithin(numbers[m], LARGEST)) {
                    return false;
                }
            }
            return true;
        }

        int countNotZero() {
            int count = 0;
            for (int m = 0; m < NUMBERS; m++) {
                if (numbers[m] != 0) {
                    count++;
                }
            }
            return count;
        }

        void become(Polynomial other) {
            System.arraycopy(other.numbers, 0, numbers, 0, NUMBERS);
        }

        void negatedFrom(Polynomial old) {
            for (int m = 0; m < NUMBERS; m++) {
                numbers[m] = -old.numbers[m];
            }
        }

        /** The sign times the old one at (y, -x). */
        void turnedFrom(Polynomial old, int sign) {
            numbers[0] = sign * old.numbers[0];
            numbers[1] = -sign * old.numbers[2];
            numbers[2] = sign * old.numbers[1];
            numbers[3] = sign * old.numbers[5];
            numbers[4] = -sign * old.numbers[4];
            numbers[5] = sign * old.numbers[3];
        }

        /** The sign times the old one at (-x, y). */
        void mirroredFrom(Polynomial old, int sign) {
            numbers[0] = sign * old.numbers[0];
            numbers[1] = -sign * old.numbers[1];
            numbers[2] = sign * old.numbers[2];
            numbers[3] = sign * old.numbers[3];
            numbers[4] = -sign * old.numbers[4];
            numbers[5] = sign * old.numbers[5];
        }

        /** The old one at (x + a, y + b). */
        void movedFrom(Polynomial old, int a, int b) {
            become(old);
            numbers[0] = old.at(a, b);
            numbers[1] = old.byX(a, b);
            numbers[2] = old.byY(a, b);
        }

        void increase(Polynomial other, int times) {
            for (int m = 0; m < NUMBERS; m++) {
                numbers[m] += times * other.numbers[m];
            }
        }
    }

    private static final class Flow {
        final Polynomial p = new Polynomial();
        final Polynomial q = new Polynomial();

        Polynomial part(boolean ofQ) {
            return ofQ ? q : p;
        }

        void become(Flow other) {
            p.become(other.p);
            q.become(other.q);
        }

        boolean fits() {
            return p.fits() && q.fits();
        }

        int countNotZero() {
            return p.countNotZero() + q.countNotZero();
        }

        boolean isRest(int x, int y) {
            return p.at(x, y) == 0 && q.at(x, y) == 0;
        }

        int sortAt(int x, int y) {
            int trace = p.byX(x, y) + q.byY(x, y);
            int determinant = p.byX(x, y) * q.byY(x, y) - p.byY(x, y) * q.byX(x, y);
            if (determinant == 0) {
                return BLUNT;
            }
            if (determinant < 0) {
                return SADDLE;
            }
            if (trace * trace >= 4 * determinant) {
                return NODE;
            }
            return trace != 0 ? SPIRAL : EVEN;
        }

        int spreadAt(int x, int y) {
            return p.byX(x, y) + q.byY(x, y);
        }

        /** The spread has no squares: three places that are not on one line tell it whole. */
        boolean isFree() {
            return spreadAt(0, 0) == 0 && spreadAt(1, 0) == 0 && spreadAt(0, 1) == 0;
        }

        int lastKind() {
            if (isFree()) {
                return FREE;
            }
            if (p.hasSquares() || q.hasSquares()) {
                return PLAIN;
            }
            return p.numbers[0] == 0 && q.numbers[0] == 0 ? CENTRAL : LINEAR;
        }
    }

    /**
     * Piece k goes from corner k to corner k + 1: behind the last corner the first one stands
     * again, so that the last piece is as the others.
     */
    private static final class Fence {
        final int[] xs = new int[MOST_CORNERS + 1];
        final int[] ys = new int[MOST_CORNERS + 1];
        int count = 0;

        boolean isLatest(int x, int y) {
            return count > 0 && xs[count - 1] == x && ys[count - 1] == y;
        }

        void append(int x, int y) {
            if (count < MOST_CORNERS) {
                xs[count] = x;
                ys[count] = y;
                count++;
                xs[count] = xs[0];
                ys[count] = ys[0];
            }
        }

        int stepX(int k) {
            return xs[k + 1] - xs[k];
        }

        int stepY(int k) {
            return ys[k + 1] - ys[k];
        }

        /** Above 0 where the place is to the left of piece k, 0 where it is in line with it. */
        int leftOf(int k, int x, int y) {
            return (xs[k + 1] - xs[k]) * (y - ys[k]) - (ys[k + 1] - ys[k]) * (x - xs[k]);
        }

        boolean isOn(int k, int x, int y) {
            return leftOf(k, x, y) == 0
                    && x >= Math.min(xs[k], xs[k + 1]) && x <= Math.max(xs[k], xs[k + 1])
                    && y >= Math.min(ys[k], ys[k + 1]) && y <= Math.max(ys[k], ys[k + 1]);
        }

        int doubleArea() {
            int sum = 0;
            for (int k = 0; k < count; k++) {
                sum += xs[k] * ys[k + 1] - ys[k] * xs[k + 1];
            }
            return sum;
        }

        boolean isLeft() {
            return isSimple() && doubleArea() > 0;
        }

        boolean isSimple() {
            if (count < 3) {
                return false;
            }
            for (int i = 0; i < count; i++) {
                for (int k = i + 1; k < count; k++) {
                    if (areAlike(i, k) || clash(i, k)) {
                        return false;
                    }
                }
            }
            return true;
        }

        boolean areAlike(int i, int k) {
            return xs[i] == xs[k] && ys[i] == ys[k];
        }

        /** Whether two pieces, i before k, share a place that they may not. */
        boolean clash(int i, int k) {
            if (k == i + 1) {
                return foldsBack(i, k);
            }
            if (i == 0 && k == count - 1) {
                return foldsBack(k, i);
            }
            return (parts(i, k) && parts(k, i)) || touches(i, k) || touches(k, i);
        }

        /** Whether a piece and the one that follows it share more than the corner between them. */
        boolean foldsBack(int first, int second) {
            return isOn(first, xs[second + 1], ys[second + 1]) || isOn(second, xs[first], ys[first]);
        }

        /** Whether the ends of piece k are on different sides of the line of piece i, neither on it. */
        boolean parts(int i, int k) {
            int start = leftOf(i, xs[k], ys[k]);
            int end = leftOf(i, xs[k + 1], ys[k + 1]);
            return (start < 0 && end > 0) || (start > 0 && end < 0);
        }

        /** Whether an end of piece k is on piece i. */
        boolean touches(int i, int k) {
            return isOn(i, xs[k], ys[k]) || isOn(i, xs[k + 1], ys[k + 1]);
        }

        int whereIs(int x, int y) {
            boolean inside = false;
            for (int k = 0; k < count; k++) {
                if (isOn(k, x, y)) {
                    return ON_PIECE;
                }
                if (passesRightOf(k, x, y)) {
                    inside = !inside;
                }
            }
            return inside ? INSIDE : OUTSIDE;
        }

        /** A piece has its lower end here but not its upper one, so that a corner is passed as often as it should. */
        boolean passesRightOf(int k, int x, int y) {
            int from = ys[k];
            int to = ys[k + 1];
            if (from <= y && y < to) {
                return leftOf(k, x, y) > 0;
            }
            return to <= y && y < from && leftOf(k, x, y) < 0;
        }
    }

    /**
     * a t t + b t + c with t from 0 to 1 along a piece. All answers are exact: a root is never
     * worked out, only the sign that something has at it.
     */
    private static final class Quadratic {
        long a;
        long b;
        long c;

        void follow(Polynomial part, Fence fence, int k) {
            int x = fence.xs[k];
            int y = fence.ys[k];
            int stepX = fence.stepX(k);
            int stepY = fence.stepY(k);
            a = part.squaresAt(stepX, stepY);
            b = stepX * part.byX(x, y) + stepY * part.byY(x, y);
            c = part.at(x, y);
        }

        void combine(long times, Quadratic first, long otherTimes, Quadratic second) {
            a = times * first.a + otherTimes * second.a;
            b = times * first.b + otherTimes * second.b;
            c = times * first.c + otherTimes * second.c;
        }

        boolean isZero() {
            return a == 0 && b == 0 && c == 0;
        }

        long discriminant() {
            return b * b - 4 * a * c;
        }

        /** How many different roots there are, on the piece or not; none are told of what is 0 everywhere. */
        int rootCount() {
            if (a == 0) {
                return b == 0 ? 0 : 1;
            }
            long d = discriminant();
            if (d == 0) {
                return 1;
            }
            return d > 0 ? 2 : 0;
        }

        /** The sign that stands before the square root in root i. */
        int branch(int i) {
            return i == 0 ? -1 : 1;
        }

        /**
         * The sign of oa t t + ob t + oc at root i. For a square, that is the sign of
         * even + odd times the square root of the discriminant; even even less odd odd times
         * the discriminant is 4 a a times the resultant, which stays small enough for a long.
         */
        int signAtRoot(int i, long oa, long ob, long oc) {
            if (a == 0) {
                return Long.signum(oa * c * c - ob * b * c + oc * b * b);
            }
            long u = a * ob - oa * b;
            long v = a * oc - oa * c;
            long w = b * oc - ob * c;
            int even = Long.signum(2 * a * v - u * b);
            int odd = discriminant() == 0 ? 0 : branch(i) * Long.signum(u);
            if (even * odd >= 0) {
                return even != 0 ? even : odd;
            }
            int resultant = Long.signum(v * v - u * w);
            return resultant >= 0 ? even * resultant : odd;
        }

        int signAtRootOf(Quadratic other, int i) {
            return other.signAtRoot(i, a, b, c);
        }

        /** Below 0, 0, above 0: root i is before, at, after the piece's start. */
        int sideOfStart(int i) {
            return signAtRoot(i, 0, 1, 0);
        }

        int sideOfEnd(int i) {
            return signAtRoot(i, 0, 1, -1);
        }

        boolean isOnPiece(int i) {
            return sideOfStart(i) >= 0 && sideOfEnd(i) <= 0;
        }

        int zerosOnPiece() {
            if (isZero()) {
                return EVERYWHERE;
            }
            int count = 0;
            int roots = rootCount();
            for (int i = 0; i < roots; i++) {
                if (isOnPiece(i)) {
                    count++;
                }
            }
            return count;
        }

        boolean meetsZeroOf(Quadratic other) {
            if (isZero()) {
                return other.zerosOnPiece() > 0;
            }
            int roots = rootCount();
            for (int i = 0; i < roots; i++) {
                if (isOnPiece(i) && other.signAtRootOf(this, i) == 0) {
                    return true;
                }
            }
            return false;
        }

        int signAfterRoot(int i) {
            if (a == 0) {
                return Long.signum(b);
            }
            return discriminant() == 0 ? Long.signum(a) : branch(i);
        }

        int signBeforeRoot(int i) {
            boolean touchesOnly = a != 0 && discriminant() == 0;
            return touchesOnly ? signAfterRoot(i) : -signAfterRoot(i);
        }

        /**
         * How often the arrow (ahead, this) comes to this >= 0 less how often it leaves that,
         * where ahead is above 0. As 0 counts with what is above it, a corner at which
         * this is 0 is told once by its two pieces together.
         */
        int upwardCrossings(Quadratic ahead) {
            int sum = 0;
            int roots = rootCount();
            for (int i = 0; i < roots; i++) {
                if (!isOnPiece(i) || ahead.signAtRootOf(this, i) <= 0) {
                    continue;
                }
                if (sideOfStart(i) > 0 && signBeforeRoot(i) < 0) {
                    sum++;
                }
                if (sideOfEnd(i) < 0 && signAfterRoot(i) < 0) {
                    sum--;
                }
            }
            return sum;
        }
    }

    /** What the five plain sums change by, a row each: as many of them are free as there are sums kept. */
    private static final class Table {
        final long[][] rows = new long[SUM_NUMBERS][CHANGE_NUMBERS];

        void fillRow(int i, int[] numbers) {
            for (int m = 0; m < CHANGE_NUMBERS; m++) {
                rows[i][m] = numbers[m];
            }
        }

        /** By whole numbers alone: each division by the pivot before leaves no rest (Bareiss), so nothing grows large. */
        int rank() {
            int rank = 0;
            long pivotBefore = 1;
            for (int column = 0; column < CHANGE_NUMBERS && rank < SUM_NUMBERS; column++) {
                if (!raisePivot(rank, column)) {
                    continue;
                }
                clearBelow(rank, column, pivotBefore);
                pivotBefore = rows[rank][column];
                rank++;
            }
            return rank;
        }

        boolean raisePivot(int top, int column) {
            for (int i = top; i < SUM_NUMBERS; i++) {
                if (rows[i][column] != 0) {
                    swapRows(i, top);
                    return true;
                }
            }
            return false;
        }

        void swapRows(int i, int k) {
            for (int m = 0; m < CHANGE_NUMBERS; m++) {
                long held = rows[i][m];
                rows[i][m] = rows[k][m];
                rows[k][m] = held;
            }
        }

        void clearBelow(int top, int column, long pivotBefore) {
            long pivot = rows[top][column];
            for (int i = top + 1; i < SUM_NUMBERS; i++) {
                long first = rows[i][column];
                for (int m = column; m < CHANGE_NUMBERS; m++) {
                    long crossed = rows[i][m] * pivot - first * rows[top][m];
                    rows[i][m] = pivotBefore == 0 ? crossed : crossed / pivotBefore;
                }
            }
        }
    }

    /** A row of numbers of one width; bits 0 means that it is missing. */
    private static final class Sheet {
        final int[] numbers = new int[MOST_ON_SHEET];
        int bits = 0;
        int size = 0;

        boolean isMissing() {
            return bits == 0;
        }

        void begin(int width, int n) {
            bits = width;
            size = n;
            for (int i = 0; i < MOST_ON_SHEET; i++) {
                numbers[i] = 0;
            }
        }

        int lowestBits(int v) {
            if (bits == 8) {
                return (byte) v;
            }
            return bits == 16 ? (short) v : v;
        }

        /** Written so that no sum can run over: n may be as large as an int. */
        boolean hasRange(int from, int n) {
            return from >= 0 && n >= 0 && n <= size && from <= size - n;
        }
    }

    /** The latest states before an act, in a ring: the oldest makes room. */
    private static final class Past {
        static final int COUNT_AT = 2 * NUMBERS;
        static final int XS_AT = COUNT_AT + 1;
        static final int YS_AT = XS_AT + MOST_CORNERS + 1;
        final int[][] rows = new int[MOST_UNDONE][YS_AT + MOST_CORNERS + 1];
        int count = 0;
        int latest = MOST_UNDONE - 1;

        void remember(Flow flow, Fence fence) {
            latest = latest + 1 < MOST_UNDONE ? latest + 1 : 0;
            count = Math.min(count + 1, MOST_UNDONE);
            int[] row = rows[latest];
            System.arraycopy(flow.p.numbers, 0, row, 0, NUMBERS);
            System.arraycopy(flow.q.numbers, 0, row, NUMBERS, NUMBERS);
            row[COUNT_AT] = fence.count;
            System.arraycopy(fence.xs, 0, row, XS_AT, MOST_CORNERS + 1);
            System.arraycopy(fence.ys, 0, row, YS_AT, MOST_CORNERS + 1);
        }

        void bringBack(Flow flow, Fence fence) {
            if (count == 0) {
                return;
            }
            int[] row = rows[latest];
            System.arraycopy(row, 0, flow.p.numbers, 0, NUMBERS);
            System.arraycopy(row, NUMBERS, flow.q.numbers, 0, NUMBERS);
            fence.count = row[COUNT_AT];
            System.arraycopy(row, XS_AT, fence.xs, 0, MOST_CORNERS + 1);
            System.arraycopy(row, YS_AT, fence.ys, 0, MOST_CORNERS + 1);
            latest = latest > 0 ? latest - 1 : MOST_UNDONE - 1;
            count--;
        }
    }
}
