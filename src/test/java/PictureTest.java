import java.math.BigInteger;

/** Promises 1 to 9: a new object, pictures, making, heights, shapes, edges, farness. */
public final class PictureTest {
    private static final Check check = new Check("PictureTest");
    private static final int[] WRONG = {Integer.MIN_VALUE, -1000, -1};

    public static void main(String[] args) {
        newObject();
        pictures();
        picturesAnew();
        making();
        bending();
        sidesOfEdges();
        edges();
        farness();
        shaping();
        shapingRefused();
        check.end();
    }

    private static void newObject() {
        CutOnce x = new CutOnce();
        long[] told = {1, 1, 1, 0, 0};
        for (int what = 0; what < told.length; what++) {
            check.due("new: told(" + what + ")", x.told(what), told[what]);
        }
        check.due("new: height(0, 0)", x.height(0, 0), CutOnce.LOST);
        check.due("new: heaped(0, 0)", x.heaped(0, 0), CutOnce.UNKNOWN);
        check.due("new: joined(0, 0)", x.joined(0, 0), CutOnce.STATE);
        check.due("new: trials()", x.trials(), 0);
        check.due("new: trace()", x.trace(), 0);
        check.due("new: fault()", x.fault(), 0);
        for (int k = 0; k < 4; k++) {
            check.due("new: put(" + k + ", 0, 1)", x.put(k, 0, 1), -11);
            check.due("new: lose(" + k + ")", x.lose(k), 0);
        }
        check.due("LOST", CutOnce.LOST, Long.MIN_VALUE);
    }

    private static void pictures() {
        CutOnce x = new CutOnce();
        long[][] sides = {{0, 1, 2, 3, 4}, {1, 4, 7, 10, 13}, {2, 7, 12, 17, 22}, {3, 10, 17, 24, 31}, {4, 13, 22, 31, 40}};
        for (int w = 1; w <= 5; w++) {
            for (int h = 1; h <= 5; h++) {
                long due = sides[w - 1][h - 1];
                check.due("picture(" + w + ", " + h + ")", x.picture(w, h), due);
                check.due("told(0)", x.told(0), w);
                check.due("told(1)", x.told(1), h);
                check.due("told(2)", x.told(2), w * h);
                check.due("told(3)", x.told(3), due);
            }
        }
        int[] outside = {Integer.MIN_VALUE, -1, 0, 6, 7, Integer.MAX_VALUE};
        for (int bad : outside) {
            check.due("picture(" + bad + ", 2)", x.picture(bad, 2), CutOnce.OUTSIDE);
            check.due("picture(2, " + bad + ")", x.picture(2, bad), CutOnce.OUTSIDE);
            check.due("picture(" + bad + ", " + bad + ")", x.picture(bad, bad), CutOnce.OUTSIDE);
        }
        check.due("refused pictures leave told(2)", x.told(2), 25);
    }

    private static void picturesAnew() {
        CutOnce x = new CutOnce();
        x.picture(2, 2);
        x.make(9);
        x.heap(9);
        x.sheet(1, 1, 3);
        x.put(1, 2, 77);
        x.tell(0);
        long trace = x.trace();
        x.ways();
        long trials = x.trials();
        long before = x.height(3, 4);
        check.due("picture(6, 2)", x.picture(6, 2), CutOnce.OUTSIDE);
        check.due("a refused picture leaves the heap", x.told(4), 4);
        check.due("a refused picture leaves the heights", x.height(3, 4), before);
        check.due("picture(2, 2)", x.picture(2, 2), 4);
        check.due("a new picture empties the heap", x.told(4), 0);
        for (int side = 0; side < 4; side++) {
            for (int i = 0; i < 5; i++) {
                check.due("a new picture: height(" + side + ", " + i + ")", x.height(side, i), 0);
            }
        }
        check.due("a new picture leaves the sheets", x.cell(1, 2, 1), 77);
        check.due("a new picture leaves trace()", x.trace(), trace);
        check.due("a new picture leaves trials()", x.trials(), trials);
        x.bend(3, 4, 5);
        x.picture(1, 1);
        x.picture(2, 2);
        check.due("heights of sides that were gone are 0", x.height(3, 4), 0);
    }

    /** The same numbers by another way: big integers, cut to 64 bits. */
    private static void making() {
        long[] seeds = {0, 1, -1, 5, 42, 1234567890123L, Long.MIN_VALUE, Long.MAX_VALUE, -987654321987L};
        for (long seed : seeds) {
            CutOnce x = new CutOnce();
            x.picture(5, 4);
            x.heap(3);
            check.due("make(" + seed + ")", x.make(seed), 1);
            check.due("make leaves the heap", x.told(4), 20);
            BigInteger draw = BigInteger.valueOf(seed);
            for (int side = 0; side < 31; side++) {
                for (int i = 0; i < 5; i++) {
                    draw = PlainCutOnce.nextDraw(draw);
                    long due = PlainCutOnce.numberBelow(draw, 19) - 9;
                    check.due("make(" + seed + "): height(" + side + ", " + i + ")", x.height(side, i), due);
                }
            }
        }
        CutOnce none = new CutOnce();
        check.due("make(1) without sides", none.make(1), 1);
        CutOnce first = new CutOnce();
        first.picture(3, 2);
        first.make(1234567890123L);
        long[] due = {-2, 5, 4, 4, 8};
        for (int i = 0; i < 5; i++) {
            check.due("make(1234567890123): height(0, " + i + ")", first.height(0, i), due[i]);
        }
    }

    private static void bending() {
        CutOnce x = new CutOnce();
        x.picture(2, 2);
        check.due("bend(3, 4, 9)", x.bend(3, 4, 9), 0);
        check.due("bend(3, 4, -9)", x.bend(3, 4, -9), 9);
        check.due("bend(3, 4, 1)", x.bend(3, 4, 1), -9);
        check.due("bend(3, 4, 1) again", x.bend(3, 4, 1), 1);
        check.due("height(3, 4)", x.height(3, 4), 1);
        check.due("height(3, 3)", x.height(3, 3), 0);
        check.due("height(2, 4)", x.height(2, 4), 0);
        int[] noSide = {Integer.MIN_VALUE, -1, 4, 5, 40, Integer.MAX_VALUE};
        for (int side : noSide) {
            check.due("bend(" + side + ", 0, 1)", x.bend(side, 0, 1), CutOnce.LOST);
            check.due("height(" + side + ", 0)", x.height(side, 0), CutOnce.LOST);
        }
        int[] noPlace = {Integer.MIN_VALUE, -1, 5, 6, Integer.MAX_VALUE};
        for (int i : noPlace) {
            check.due("bend(1, " + i + ", 1)", x.bend(1, i, 1), CutOnce.LOST);
            check.due("height(1, " + i + ")", x.height(1, i), CutOnce.LOST);
        }
        int[] noHeight = {Integer.MIN_VALUE, -10, 10, Integer.MAX_VALUE};
        for (int v : noHeight) {
            check.due("bend(3, 4, " + v + ")", x.bend(3, 4, v), CutOnce.LOST);
        }
        check.due("refused bends leave height(3, 4)", x.height(3, 4), 1);
        for (int side = 0; side < 4; side++) {
            for (int i = 0; i < 5; i++) {
                check.due("refused bends: height(" + side + ", " + i + ")", x.height(side, i), side == 3 && i == 4 ? 1 : 0);
            }
        }
    }

    private static void sidesOfEdges() {
        CutOnce x = new CutOnce();
        x.picture(3, 2);
        long[][] due = {
            {-9, 0, 4, -9}, {-9, 1, 5, 0}, {-9, -9, 6, 1},
            {4, 2, -9, -9}, {5, 3, -9, 2}, {6, -9, -9, 3}};
        for (int p = 0; p < 6; p++) {
            for (int e = 0; e < 4; e++) {
                check.due("3 by 2: sideOf(" + p + ", " + e + ")", x.sideOf(p, e), due[p][e]);
            }
        }
        for (int p : new int[] {Integer.MIN_VALUE, -1, 6, 25, Integer.MAX_VALUE}) {
            check.due("sideOf(" + p + ", 1)", x.sideOf(p, 1), CutOnce.UNKNOWN);
        }
        for (int e : new int[] {Integer.MIN_VALUE, -1, 4, Integer.MAX_VALUE}) {
            check.due("sideOf(1, " + e + ")", x.sideOf(1, e), CutOnce.UNKNOWN);
        }
        x.picture(1, 3);
        long[][] tall = {{-9, -9, 0, -9}, {0, -9, 1, -9}, {1, -9, -9, -9}};
        for (int p = 0; p < 3; p++) {
            for (int e = 0; e < 4; e++) {
                check.due("1 by 3: sideOf(" + p + ", " + e + ")", x.sideOf(p, e), tall[p][e]);
            }
        }
    }

    private static void edges() {
        CutOnce x = new CutOnce();
        x.picture(2, 2);
        for (int side = 0; side < 4; side++) {
            for (int i = 0; i < 5; i++) {
                x.bend(side, i, side + i + 1);
            }
        }
        for (int i = 0; i < 5; i++) {
            check.due("edge(0, 1, " + i + ")", x.edge(0, 1, i), 1 + i);
            check.due("edge(1, 3, " + i + ")", x.edge(1, 3, i), i - 5);
            check.due("edge(2, 1, " + i + ")", x.edge(2, 1, i), 2 + i);
            check.due("edge(3, 3, " + i + ")", x.edge(3, 3, i), i - 6);
            check.due("edge(0, 2, " + i + ")", x.edge(0, 2, i), 3 + i);
            check.due("edge(2, 0, " + i + ")", x.edge(2, 0, i), i - 7);
            check.due("edge(1, 2, " + i + ")", x.edge(1, 2, i), 4 + i);
            check.due("edge(3, 0, " + i + ")", x.edge(3, 0, i), i - 8);
            check.due("edge(0, 0, " + i + ") is flat", x.edge(0, 0, i), CutOnce.LOST);
            check.due("edge(3, 2, " + i + ") is flat", x.edge(3, 2, i), CutOnce.LOST);
        }
        for (int bad : WRONG) {
            check.due("edge(" + bad + ", 1, 0)", x.edge(bad, 1, 0), CutOnce.LOST);
            check.due("edge(0, " + bad + ", 0)", x.edge(0, bad, 0), CutOnce.LOST);
            check.due("edge(0, 1, " + bad + ")", x.edge(0, 1, bad), CutOnce.LOST);
        }
        check.due("edge(4, 1, 0)", x.edge(4, 1, 0), CutOnce.LOST);
        check.due("edge(0, 4, 0)", x.edge(0, 4, 0), CutOnce.LOST);
        check.due("edge(0, 1, 5)", x.edge(0, 1, 5), CutOnce.LOST);
    }

    private static void farness() {
        CutOnce x = new CutOnce();
        x.picture(2, 2);
        for (int i = 0; i < 5; i++) {
            x.bend(0, i, i + 1);
            x.bend(1, i, 9);
            x.bend(2, i, -9);
        }
        // edges of one side fit
        check.due("far(0, 1, 1, 3)", x.far(0, 1, 1, 3), 0);
        check.due("far(1, 3, 0, 1)", x.far(1, 3, 0, 1), 0);
        check.due("far(3, 0, 1, 2)", x.far(3, 0, 1, 2), 0);
        // 1 2 3 4 5 with itself the other way round: 6 five times
        check.due("far(0, 1, 0, 1)", x.far(0, 1, 0, 1), 30);
        // 1 2 3 4 5 and 9 five times
        check.due("far(0, 1, 2, 1)", x.far(0, 1, 2, 1), 60);
        // 1 2 3 4 5 and -9 five times
        check.due("far(0, 1, 0, 2)", x.far(0, 1, 0, 2), 30);
        check.due("far(2, 1, 2, 1)", x.far(2, 1, 2, 1), 90);
        check.due("far(0, 2, 0, 2)", x.far(0, 2, 0, 2), 90);
        check.due("far(2, 1, 0, 2)", x.far(2, 1, 0, 2), 0);
        // 1 2 3 4 5 and 0 five times
        check.due("far(0, 1, 1, 2)", x.far(0, 1, 1, 2), 15);
        check.due("far(0, 0, 0, 1): flat", x.far(0, 0, 0, 1), CutOnce.STATE);
        check.due("far(0, 1, 0, 0): flat", x.far(0, 1, 0, 0), CutOnce.STATE);
        check.due("far(0, 0, 4, 0): no piece", x.far(0, 0, 4, 0), CutOnce.UNKNOWN);
        check.due("far(0, 0, 0, 4): no edge", x.far(0, 0, 0, 4), CutOnce.UNKNOWN);
        check.due("far(4, 0, 0, 0)", x.far(4, 0, 0, 0), CutOnce.UNKNOWN);
        check.due("far(0, 4, 0, 0)", x.far(0, 4, 0, 0), CutOnce.UNKNOWN);
        for (int bad : WRONG) {
            check.due("far(" + bad + ", 1, 1, 3)", x.far(bad, 1, 1, 3), CutOnce.UNKNOWN);
            check.due("far(0, " + bad + ", 1, 3)", x.far(0, bad, 1, 3), CutOnce.UNKNOWN);
            check.due("far(0, 1, " + bad + ", 3)", x.far(0, 1, bad, 3), CutOnce.UNKNOWN);
            check.due("far(0, 1, 1, " + bad + ")", x.far(0, 1, 1, bad), CutOnce.UNKNOWN);
        }
        x.bend(3, 0, -1);
        // -1 0 0 0 0 the other way round with 1 2 3 4 5: 1 + 2 + 3 + 4 + 4
        check.due("far(0, 1, 1, 2) with one bent in", x.far(0, 1, 1, 2), 14);
    }

    private static void shaping() {
        CutOnce x = new CutOnce();
        x.picture(2, 2);
        x.sheet(2, 0, 12);
        for (int i = 0; i < 12; i++) {
            x.put(2, i, i - 2);
        }
        check.due("shape(2, 0, 1, 2, 1)", x.shape(2, 0, 1, 2, 1), 2);
        for (int i = 0; i < 5; i++) {
            check.due("shaped: height(0, " + i + ")", x.height(0, i), 0);
            check.due("shaped: height(1, " + i + ")", x.height(1, i), i - 1);
            check.due("shaped: height(2, " + i + ")", x.height(2, i), i + 4);
            check.due("shaped: height(3, " + i + ")", x.height(3, i), 0);
        }
        check.due("shape leaves the sheet", x.cell(2, 1, 0), -1);
        check.due("shape(2, 0, 12, 0, 3): none, from the end on", x.shape(2, 0, 12, 0, 3), 0);
        check.due("shape(2, 0, 0, 0, 0): none", x.shape(2, 0, 0, 0, 0), 0);
        check.due("shape(2, 0, 7, 1, 3): up to the last cell and side", x.shape(2, 0, 7, 1, 3), 1);
        check.due("shaped: height(3, 4)", x.height(3, 4), 9);
        for (int lane = 1; lane <= 2; lane++) {
            x.sheet(0, lane, 5);
            x.put(0, 0, -9);
            x.put(0, 4, 9);
            check.due("shape(0, " + lane + ", 0, 1, 0)", x.shape(0, lane, 0, 1, 0), 1);
            check.due("height(0, 0)", x.height(0, 0), -9);
            check.due("height(0, 4)", x.height(0, 4), 9);
        }
    }

    private static void shapingRefused() {
        int most = Integer.MAX_VALUE;
        int least = Integer.MIN_VALUE;
        CutOnce none = new CutOnce();
        none.sheet(0, 1, 5);
        check.due("no sides: shape(0, 1, 0, 0, 0)", none.shape(0, 1, 0, 0, 0), CutOnce.UNKNOWN);
        long[][] rows = {
            // sheet, lane, cell, how many, side, answer
            {-1, 1, 0, 1, 0, -1}, {4, 1, 0, 1, 0, -1}, {most, 1, 0, 1, 0, -1}, {least, 1, 0, 1, 0, -1},
            {0, 1, 0, 1, -1, -1}, {0, 1, 0, 0, 4, -1}, {0, 1, 0, 1, most, -1}, {0, 1, 0, 1, least, -1},
            {0, 3, 0, 1, 4, -1}, {4, 3, 0, 1, 0, -1},
            {0, 3, 0, 1, 0, -2}, {0, -1, 0, 1, 0, -2}, {1, 3, 0, -1, 0, -2}, {0, most, 9, -1, 0, -2},
            {0, 0, 0, 1, 0, -12}, {0, 2, 0, 0, 0, -12}, {0, 2, 9, -1, 0, -12},
            {1, 0, 0, 1, 0, -11}, {1, 1, 0, 0, 0, -11}, {1, 2, -1, -1, 0, -11},
            {0, 1, 0, -1, 0, -14}, {0, 1, -1, -1, 0, -14}, {0, 1, 0, least, 3, -14},
            {0, 1, -1, 0, 0, -13}, {0, 1, 6, 0, 0, -13}, {0, 1, 1, 1, 0, -13}, {0, 1, 0, 2, 0, -13},
            {0, 1, -5, 1, 0, -13}, {0, 1, least, 1, 0, -13}, {0, 1, most, 1, 0, -13}, {0, 1, 0, most, 0, -13},
            // five times this is 4, if it wraps
            {0, 1, 0, 858993460, 0, -13},
            {2, 0, 0, 1, 0, -13}, {2, 0, 1, 0, 0, -13},
            {3, 1, 0, 2, 3, -13}, {3, 1, 0, 5, 0, -13}, {3, 1, 40, 2, 3, -13},
            {3, 1, 45, 1, 3, -2}, {3, 1, 40, 2, 0, -2}, {3, 1, 35, 2, 2, -2},
            {3, 1, 45, 1, 4, -1},
        };
        for (long[] row : rows) {
            shapeRefused((int) row[0], (int) row[1], (int) row[2], (int) row[3], (int) row[4], row[5]);
        }
        CutOnce x = sheeted();
        check.due("shape(0, 1, 5, 0, 0)", x.shape(0, 1, 5, 0, 0), 0);
        check.due("shape(2, 0, 0, 0, 3)", x.shape(2, 0, 0, 0, 3), 0);
        check.due("shape(3, 1, 39, 1, 3): no height behind it", x.shape(3, 1, 39, 1, 3), 1);
        check.due("shape(3, 1, 45, 0, 3): no height, but none is taken", x.shape(3, 1, 45, 0, 3), 0);
        check.due("fault()", x.fault(), 0);
    }

    /** Heights 7, a sheet of five, nothing, a sheet of none, and one of fifty with no height at 44 and 49. */
    private static CutOnce sheeted() {
        CutOnce x = new CutOnce();
        x.picture(2, 2);
        for (int side = 0; side < 4; side++) {
            for (int i = 0; i < 5; i++) {
                x.bend(side, i, 7);
            }
        }
        x.sheet(0, 1, 5);
        x.sheet(2, 0, 0);
        x.sheet(3, 1, 50);
        x.put(3, 44, -10);
        x.put(3, 49, 10);
        x.put(1, 0, 0);
        return x;
    }

    /** A refused shape leaves all heights, and fault() tells the fault, or 0 behind another refusal. */
    private static void shapeRefused(int k, int lane, int i, int n, int s, long want) {
        String call = "shape(" + k + ", " + lane + ", " + i + ", " + n + ", " + s + ")";
        CutOnce x = sheeted();
        check.due("fault() ahead of " + call, x.fault(), 1);
        check.due(call, x.shape(k, lane, i, n, s), want);
        check.due(call + ": fault()", x.fault(), want <= -11 ? -10 - want : 0);
        for (int side = 0; side < 4; side++) {
            for (int at = 0; at < 5; at++) {
                check.due(call + ": height(" + side + ", " + at + ")", x.height(side, at), 7);
            }
        }
    }
}
