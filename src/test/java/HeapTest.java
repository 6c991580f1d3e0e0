import java.math.BigInteger;

/** Promises 14 to 24: the heap, what is lost and double, putting together, what is known of a lost piece. */
public final class HeapTest {
    private static final Check check = new Check("HeapTest");
    private static final int[] WRONG = {Integer.MIN_VALUE, -1, Integer.MAX_VALUE};

    public static void main(String[] args) {
        laying();
        heaping();
        taking();
        missing();
        missedOfNoKind();
        knowing();
        oneByOne();
        waysOfMade();
        waysCountPlacesAndTurns();
        borders();
        spentAtTheBound();
        spentJoin();
        theFirstWay();
        joinedIsGone();
        joinedStays();
        check.end();
    }

    private static CutOnce cut(int w, int h, long seed) {
        CutOnce x = new CutOnce();
        x.picture(w, h);
        x.make(seed);
        return x;
    }

    private static void laying() {
        CutOnce x = cut(3, 2, 1);
        check.due("lay(5, 3)", x.lay(5, 3), 1);
        check.due("lay(0, 0)", x.lay(0, 0), 2);
        check.due("lay(5, 3) again", x.lay(5, 3), 3);
        check.due("heaped(0, 0)", x.heaped(0, 0), 5);
        check.due("heaped(0, 1)", x.heaped(0, 1), 3);
        check.due("heaped(1, 0)", x.heaped(1, 0), 0);
        check.due("heaped(1, 1)", x.heaped(1, 1), 0);
        check.due("heaped(2, 1)", x.heaped(2, 1), 3);
        for (int bad : WRONG) {
            check.due("lay(" + bad + ", 0)", x.lay(bad, 0), CutOnce.UNKNOWN);
            check.due("lay(0, " + bad + ")", x.lay(0, bad), CutOnce.OUTSIDE);
            check.due("lay(" + bad + ", 4): UNKNOWN comes first", x.lay(bad, 4), CutOnce.UNKNOWN);
            check.due("heaped(" + bad + ", 0)", x.heaped(bad, 0), CutOnce.UNKNOWN);
            check.due("heaped(" + bad + ", 2): UNKNOWN comes first", x.heaped(bad, 2), CutOnce.UNKNOWN);
            check.due("heaped(0, " + bad + ")", x.heaped(0, bad), CutOnce.OUTSIDE);
        }
        check.due("lay(6, 0)", x.lay(6, 0), CutOnce.UNKNOWN);
        check.due("lay(0, 4)", x.lay(0, 4), CutOnce.OUTSIDE);
        check.due("heaped(3, 0)", x.heaped(3, 0), CutOnce.UNKNOWN);
        check.due("heaped(2, 2)", x.heaped(2, 2), CutOnce.OUTSIDE);
        check.due("refused lays leave told(4)", x.told(4), 3);
        for (int i = 4; i <= 25; i++) {
            check.due("lay(1, 1)", x.lay(1, 1), i);
        }
        check.due("lay(1, 1): full", x.lay(1, 1), CutOnce.FULL);
        check.due("lay(6, 0): full, but UNKNOWN comes first", x.lay(6, 0), CutOnce.UNKNOWN);
        check.due("lay(0, 4): full, but OUTSIDE comes first", x.lay(0, 4), CutOnce.OUTSIDE);
        check.due("told(4)", x.told(4), 25);
        check.due("heaped(24, 0)", x.heaped(24, 0), 1);
        check.due("heaped(25, 0)", x.heaped(25, 0), CutOnce.UNKNOWN);
    }

    /** The same heap by big integers. */
    private static void heaping() {
        long[] seeds = {0, 1, 43, -1, Long.MIN_VALUE, Long.MAX_VALUE, 777777777777L};
        int[][] measures = {{1, 1}, {3, 3}, {5, 5}, {4, 1}};
        for (long seed : seeds) {
            for (int[] m : measures) {
                CutOnce x = cut(m[0], m[1], seed);
                int n = m[0] * m[1];
                x.lay(0, 1);
                check.due("heap(" + seed + ")", x.heap(seed), n);
                int[] due = new int[n];
                for (int p = 0; p < n; p++) {
                    due[p] = p;
                }
                BigInteger draw = BigInteger.valueOf(seed);
                for (int i = n - 1; i >= 1; i--) {
                    draw = PlainCutOnce.nextDraw(draw);
                    int j = PlainCutOnce.numberBelow(draw, i + 1);
                    int p = due[i];
                    due[i] = due[j];
                    due[j] = p;
                }
                for (int i = 0; i < n; i++) {
                    draw = PlainCutOnce.nextDraw(draw);
                    check.due("heap(" + seed + "): heaped(" + i + ", 0)", x.heaped(i, 0), due[i]);
                    check.due("heap(" + seed + "): heaped(" + i + ", 1)", x.heaped(i, 1), PlainCutOnce.numberBelow(draw, 4));
                }
                check.due("told(4)", x.told(4), n);
            }
        }
        CutOnce x = cut(3, 3, 42);
        x.heap(43);
        int[] pieces = {5, 3, 1, 4, 8, 7, 0, 2, 6};
        int[] turns = {2, 3, 1, 1, 1, 2, 2, 1, 0};
        for (int i = 0; i < 9; i++) {
            check.due("heap(43): heaped(" + i + ", 0)", x.heaped(i, 0), pieces[i]);
            check.due("heap(43): heaped(" + i + ", 1)", x.heaped(i, 1), turns[i]);
        }
    }

    private static void taking() {
        CutOnce x = cut(2, 2, 1);
        check.due("take(0) of none", x.take(0), CutOnce.UNKNOWN);
        x.lay(0, 3);
        x.lay(1, 2);
        x.lay(2, 1);
        x.lay(3, 0);
        check.due("take(1)", x.take(1), 1);
        int[] pieces = {0, 2, 3};
        int[] turns = {3, 1, 0};
        for (int i = 0; i < 3; i++) {
            check.due("heaped(" + i + ", 0)", x.heaped(i, 0), pieces[i]);
            check.due("heaped(" + i + ", 1)", x.heaped(i, 1), turns[i]);
        }
        check.due("heaped(3, 0)", x.heaped(3, 0), CutOnce.UNKNOWN);
        for (int bad : WRONG) {
            check.due("take(" + bad + ")", x.take(bad), CutOnce.UNKNOWN);
        }
        check.due("take(3)", x.take(3), CutOnce.UNKNOWN);
        check.due("told(4)", x.told(4), 3);
        check.due("take(2)", x.take(2), 3);
        check.due("take(0)", x.take(0), 0);
        check.due("take(0)", x.take(0), 2);
        check.due("told(4)", x.told(4), 0);
        for (int i = 0; i < 25; i++) {
            x.lay(i % 4, i % 3);
        }
        check.due("take(24) of a full heap", x.take(24), 0);
        check.due("take(0) of a heap of 24", x.take(0), 0);
        check.due("heaped(22, 0)", x.heaped(22, 0), 3);
        check.due("heaped(22, 1)", x.heaped(22, 1), 2);
        check.due("lay(2, 2)", x.lay(2, 2), 24);
    }

    private static void missing() {
        CutOnce x = cut(3, 2, 1);
        check.due("nothing heaped: missing(0)", x.missing(0), 6);
        check.due("nothing heaped: missing(1)", x.missing(1), 0);
        x.lay(4, 0);
        x.lay(2, 1);
        x.lay(4, 2);
        x.lay(0, 3);
        x.lay(4, 0);
        x.lay(0, 3);
        check.due("missing(0)", x.missing(0), 3);
        check.due("missing(1)", x.missing(1), 2);
        int[] lost = {1, 3, 5};
        int[] doubles = {0, 4};
        for (int i = 0; i < 3; i++) {
            check.due("missed(0, " + i + ")", x.missed(0, i), lost[i]);
        }
        for (int i = 0; i < 2; i++) {
            check.due("missed(1, " + i + ")", x.missed(1, i), doubles[i]);
        }
        check.due("missed(0, 3)", x.missed(0, 3), CutOnce.UNKNOWN);
        check.due("missed(1, 2)", x.missed(1, 2), CutOnce.UNKNOWN);
        for (int bad : WRONG) {
            check.due("missed(0, " + bad + ")", x.missed(0, bad), CutOnce.UNKNOWN);
            check.due("missed(1, " + bad + ")", x.missed(1, bad), CutOnce.UNKNOWN);
            check.due("missing(" + bad + ")", x.missing(bad), CutOnce.OUTSIDE);
        }
        check.due("missing(2)", x.missing(2), CutOnce.OUTSIDE);
    }

    /** Another `what` asks for no row: OUTSIDE, whatever is lost or double; but below 0 there is a place of no row. */
    private static void missedOfNoKind() {
        check.due("new: missed(2, 1)", new CutOnce().missed(2, 1), CutOnce.OUTSIDE);
        check.due("new: missed(2, -1)", new CutOnce().missed(2, -1), CutOnce.UNKNOWN);
        CutOnce x = cut(3, 2, 1);
        missedIsRefused("all are lost", x);
        x.heap(1);
        missedIsRefused("none is lost or double", x);
        x.lay(3, 3);
        missedIsRefused("one is double", x);
        x.take(0);
        x.take(0);
        missedIsRefused("some are lost", x);
    }

    private static void missedIsRefused(String when, CutOnce x) {
        for (int what : new int[] {Integer.MIN_VALUE, -1, 2, 3, Integer.MAX_VALUE}) {
            for (int i : new int[] {0, 1, 5, 6, 24, 25, Integer.MAX_VALUE}) {
                check.due(when + ": missed(" + what + ", " + i + ")", x.missed(what, i), CutOnce.OUTSIDE);
            }
            for (int i : new int[] {Integer.MIN_VALUE, -2, -1}) {
                check.due(when + ": missed(" + what + ", " + i + ")", x.missed(what, i), CutOnce.UNKNOWN);
            }
        }
    }

    private static void knowing() {
        CutOnce x = cut(3, 3, 1);
        for (int p = 0; p < 9; p++) {
            check.due("nothing heaped: known(" + p + ")", x.known(p), 0);
        }
        x.lay(1, 0);
        x.lay(5, 2);
        x.lay(5, 1);
        x.lay(6, 0);
        int[] due = {5, -3, 10, 5, 10, -3, -3, 5, 5};
        for (int p = 0; p < 9; p++) {
            check.due("1, 5, 5, 6 heaped: known(" + p + ")", x.known(p), due[p]);
        }
        x.lay(3, 0);
        x.lay(7, 0);
        check.due("all around heaped: known(4)", x.known(4), 20);
        for (int p : new int[] {Integer.MIN_VALUE, -1, 9, 25, Integer.MAX_VALUE}) {
            check.due("known(" + p + ")", x.known(p), CutOnce.UNKNOWN);
        }
        // 2 and 3 are no neighbours: a row ends between them
        CutOnce rows = cut(3, 2, 1);
        rows.lay(2, 0);
        check.due("known(3) beside the end of a row", rows.known(3), 0);
        check.due("known(5) below", rows.known(5), 5);
        check.due("known(1) to the left", rows.known(1), 5);
    }

    private static void oneByOne() {
        CutOnce x = new CutOnce();
        check.due("nothing heaped: ways()", x.ways(), 0);
        check.due("nothing heaped: trials()", x.trials(), 0);
        check.due("nothing heaped: join()", x.join(), 0);
        check.due("nothing heaped: trials()", x.trials(), 0);
        x.lay(0, 3);
        check.due("1 by 1: ways()", x.ways(), 4);
        check.due("1 by 1: trials()", x.trials(), 4);
        x.lay(0, 1);
        check.due("1 by 1, two: ways()", x.ways(), 8);
        check.due("1 by 1, two: trials()", x.trials(), 8);
        check.due("1 by 1, two: join()", x.join(), 1);
        check.due("1 by 1, two: trials()", x.trials(), 1);
        check.due("joined(0, 0)", x.joined(0, 0), 0);
        check.due("joined(0, 1)", x.joined(0, 1), 0);
    }

    private static void waysOfMade() {
        CutOnce x = cut(3, 3, 42);
        x.heap(43);
        check.due("a square: ways()", x.ways(), 4);
        check.due("a square: trials()", x.trials(), 612);
        CutOnce y = cut(1, 5, 105);
        y.heap(36);
        check.due("a column: ways()", y.ways(), 2);
        check.due("a column: trials()", y.trials(), 100);
        y.take(2);
        check.due("one lost: ways()", y.ways(), 0);
        check.due("one lost: join()", y.join(), 0);
        CutOnce flat = new CutOnce();
        flat.picture(1, 5);
        flat.heap(3);
        check.due("all alike: ways()", flat.ways(), 96);
        check.due("all alike: trials()", flat.trials(), 964);
    }

    /** Two pieces with one side: the first left with its turn, or right; each other one doubles the choice. */
    private static void waysCountPlacesAndTurns() {
        CutOnce x = new CutOnce();
        x.picture(2, 1);
        x.bend(0, 0, 3);
        x.lay(0, 0);
        x.lay(1, 0);
        check.due("2 by 1: ways()", x.ways(), 2);
        // eight at the first place; 0 as it is and 1 turned by two quarters fit there, four each behind them
        check.due("2 by 1: trials()", x.trials(), 16);
        x.lay(1, 2);
        check.due("2 by 1, 1 twice: ways()", x.ways(), 4);
        check.due("2 by 1, 1 twice: trials()", x.trials(), 12 + 3 * 8);
        x.lay(0, 1);
        check.due("2 by 1, both twice: ways()", x.ways(), 8);
        // bent to fit itself: 1 2 0 -2 -1 turned about is itself
        x.bend(0, 0, 1);
        x.bend(0, 1, 2);
        x.bend(0, 3, -2);
        x.bend(0, 4, -1);
        check.due("2 by 1, all fit one another: ways()", x.ways(), 12);
        check.due("join()", x.join(), 1);
        check.due("joined(0, 0)", x.joined(0, 0), 0);
        check.due("joined(0, 1)", x.joined(0, 1), 0);
        check.due("joined(1, 0)", x.joined(1, 0), 1);
        check.due("joined(1, 1)", x.joined(1, 1), 0);
    }

    /** Pieces of a picture's middle fit one another in all heights of 0, but are not flat at the border. */
    private static void borders() {
        CutOnce x = new CutOnce();
        x.picture(3, 3);
        for (int i = 0; i < 9; i++) {
            x.lay(4, 0);
        }
        check.due("middles alone: ways()", x.ways(), 0);
        check.due("middles alone: trials()", x.trials(), 36);
        CutOnce y = new CutOnce();
        y.picture(2, 2);
        for (int i = 0; i < 4; i++) {
            y.lay(0, i);
        }
        // corners alone: each order, each with the one turn that shows its borders
        check.due("corners alone: ways()", y.ways(), 24);
        CutOnce z = new CutOnce();
        z.picture(3, 1);
        for (int i = 0; i < 3; i++) {
            z.lay(0, 0);
        }
        // ends alone: one goes to the left, none to the middle
        check.due("ends alone: ways()", z.ways(), 0);
        check.due("ends alone: trials()", z.trials(), 12 + 3 * 8);
        CutOnce last = new CutOnce();
        last.picture(3, 1);
        last.lay(0, 0);
        last.lay(1, 0);
        last.lay(1, 0);
        // no end to the right
        check.due("one end and middles: ways()", last.ways(), 0);
        check.due("one end and middles: trials()", last.trials(), 12 + 8 + 4 * 4);
    }

    /** Equal corners in a 2 by 2 frame: at each place each one that is left has just one turn that fits. */
    private static long trialsOfCorners(long n) {
        return 4 * n + 4 * n * (n - 1) + 4 * n * (n - 1) * (n - 2) + 4 * n * (n - 1) * (n - 2) * (n - 3);
    }

    private static void spentAtTheBound() {
        CutOnce x = new CutOnce();
        x.picture(2, 2);
        for (int n = 1; n <= 12; n++) {
            x.lay(n % 4, n % 3);
            check.due(n + " corners: ways()", x.ways(), (long) n * (n - 1) * (n - 2) * (n - 3));
            check.due(n + " corners: trials()", x.trials(), trialsOfCorners(n));
        }
        x.lay(3, 3);
        check.due("13 corners: ways()", x.ways(), CutOnce.SPENT);
        check.due("13 corners: trials()", x.trials(), 60000);
        check.due("13 corners: join()", x.join(), 1);
        // the first four of the heap lie there with 2, 0, 1, 1 quarters further
        check.due("13 corners: trials()", x.trials(), 3 + 1 + 2 + 2);
        // found by trying many heaps without a bound: just 60000 trials, and 60004
        CutOnce just = heapOf(4, 1, 9, 6, 4, 1);
        check.due("just 60000 trials: ways()", just.ways(), 3024);
        check.due("just 60000 trials: trials()", just.trials(), 60000);
        CutOnce above = heapOf(5, 1, 7, 3, 0, 2, 8);
        check.due("60004 trials: ways()", above.ways(), CutOnce.SPENT);
        check.due("60004 trials: trials()", above.trials(), 60000);
    }

    /** A picture whose first side alone is bent, with so many of each piece in the heap. */
    private static CutOnce heapOf(int w, int h, int... times) {
        CutOnce x = new CutOnce();
        x.picture(w, h);
        x.bend(0, 0, 1);
        for (int p = 0; p < times.length; p++) {
            for (int i = 0; i < times[p]; i++) {
                x.lay(p, 0);
            }
        }
        return x;
    }

    private static void spentJoin() {
        CutOnce x = new CutOnce();
        x.picture(5, 5);
        x.bend(39, 0, 1);
        for (int i = 0; i < 25; i++) {
            x.lay(new int[] {0, 1, 6}[i % 3], 0);
        }
        check.due("join() of many alike that end nowhere", x.join(), CutOnce.SPENT);
        check.due("trials()", x.trials(), 60000);
        check.due("joined(0, 0)", x.joined(0, 0), CutOnce.STATE);
    }

    private static void theFirstWay() {
        CutOnce x = cut(3, 3, 42);
        x.heap(43);
        check.due("joined(0, 0) ahead of join()", x.joined(0, 0), CutOnce.STATE);
        check.due("joined(9, 2): STATE comes first", x.joined(9, 2), CutOnce.STATE);
        check.due("join()", x.join(), 1);
        check.due("trials()", x.trials(), 90);
        int[] places = {4, 5, 8, 0, 3, 1, 7, 2, 6};
        int[] turns = {1, 0, 2, 0, 1, 3, 1, 1, 0};
        for (int place = 0; place < 9; place++) {
            check.due("joined(" + place + ", 0)", x.joined(place, 0), places[place]);
            check.due("joined(" + place + ", 1)", x.joined(place, 1), turns[place]);
        }
        for (int bad : WRONG) {
            check.due("joined(" + bad + ", 0)", x.joined(bad, 0), CutOnce.UNKNOWN);
            check.due("joined(" + bad + ", 2): UNKNOWN comes first", x.joined(bad, 2), CutOnce.UNKNOWN);
            check.due("joined(0, " + bad + ")", x.joined(0, bad), CutOnce.OUTSIDE);
        }
        check.due("joined(9, 0)", x.joined(9, 0), CutOnce.UNKNOWN);
        check.due("joined(8, 2)", x.joined(8, 2), CutOnce.OUTSIDE);
    }

    private static CutOnce joinedPicture() {
        CutOnce x = cut(2, 2, 7);
        x.heap(8);
        check.due("join()", x.join(), 1);
        check.due("joined(0, 0)", x.joined(0, 0) >= 0 ? 1 : 0, 1);
        return x;
    }

    private static void gone(CutOnce x, String call) {
        check.due("joined(0, 0) behind " + call, x.joined(0, 0), CutOnce.STATE);
    }

    private static void joinedIsGone() {
        CutOnce x = joinedPicture();
        x.picture(2, 2);
        gone(x, "picture");
        x = joinedPicture();
        x.make(7);
        gone(x, "make");
        x = joinedPicture();
        x.bend(0, 0, (int) x.height(0, 0));
        gone(x, "bend");
        x = joinedPicture();
        x.sheet(0, 0, 0);
        x.shape(0, 0, 0, 0, 0);
        gone(x, "shape");
        x = joinedPicture();
        x.alike(0, 1, 0);
        gone(x, "alike");
        x = joinedPicture();
        x.lay(0, 0);
        gone(x, "lay");
        x = joinedPicture();
        x.heap(8);
        gone(x, "heap");
        x = joinedPicture();
        x.take(3);
        gone(x, "take");
        check.due("join() of a heap with one lost", x.join(), 0);
        gone(x, "a join() that told 0");
    }

    private static void joinedStays() {
        CutOnce x = joinedPicture();
        int place = x.joined(3, 0);
        int turn = x.joined(3, 1);
        for (int i = 0; i < 5; i++) {
            x.sheet(i, i, 9);
            x.put(0, 0, 10);
        }
        x.picture(0, 1);
        x.bend(0, 0, 10);
        x.bend(4, 0, 1);
        x.shape(0, 0, 0, 1, 0);
        x.shape(0, 0, 0, -1, 0);
        x.alike(0, 0, 0);
        x.alike(0, 1, 2);
        x.lay(4, 0);
        x.lay(0, 4);
        x.take(4);
        x.ways();
        x.unlike();
        x.traps(5);
        x.missing(0);
        x.known(0);
        x.lose(0);
        x.tell(0);
        x.mark(0);
        check.due("joined(3, 0) stays", x.joined(3, 0), place);
        check.due("joined(3, 1) stays", x.joined(3, 1), turn);
        check.due("join() again", x.join(), 1);
        check.due("joined(3, 0) again", x.joined(3, 0), place);
        // all ways are looked at behind it: the way of the join() stays the first one
        for (int at = 0; at < 21; at++) {
            check.due("lay(0, 0)", x.lay(0, 0), 5 + at);
        }
        check.due("join() of a full heap", x.join(), 1);
        place = x.joined(3, 0);
        check.due("lay(0, 0): full", x.lay(0, 0), CutOnce.FULL);
        x.ways();
        check.due("joined(3, 0) stays behind ways() and FULL", x.joined(3, 0), place);
    }
}
