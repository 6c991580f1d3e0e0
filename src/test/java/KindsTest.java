/** Promises 10 to 13: kinds of sides, the least farness of strangers, traps, sides made alike. */
public final class KindsTest {
    private static final Check check = new Check("KindsTest");
    private static final int[] WRONG = {Integer.MIN_VALUE, -1, 12, 13, 40, Integer.MAX_VALUE};

    public static void main(String[] args) {
        kinds();
        noStrangers();
        leastFarness();
        farnessOfTwoInARow();
        flatAreNoStrangers();
        allPairs();
        madeAlike();
        madeAlikeRefused();
        check.end();
    }

    private static CutOnce threeByThree() {
        CutOnce x = new CutOnce();
        x.picture(3, 3);
        return x;
    }

    private static void shape(CutOnce x, int side, int... heights) {
        for (int i = 0; i < heights.length; i++) {
            x.bend(side, i, heights[i]);
        }
    }

    private static void kinds() {
        CutOnce x = threeByThree();
        check.due("all heights 0: kind(0)", x.kind(0), 0);
        shape(x, 0, 1, 2, 3, 4, 5);
        check.due("all above 0: kind(0)", x.kind(0), 1);
        shape(x, 1, -9, -1, -9, -1, -9);
        check.due("all below 0: kind(1)", x.kind(1), 1);
        shape(x, 2, 1, 2, 0, 4, 5);
        check.due("one of 0: kind(2)", x.kind(2), 0);
        shape(x, 3, 1, 2, 3, 4, -5);
        check.due("above and below: kind(3)", x.kind(3), 0);
        shape(x, 4, 0, 2, 3, 4, 5);
        check.due("first of 0: kind(4)", x.kind(4), 0);
        shape(x, 4, 1, 2, 3, 4, 0);
        check.due("last of 0: kind(4)", x.kind(4), 0);
        shape(x, 5, 5, 4, 3, 2, 1);
        check.due("the other way round alone is no trap: kind(5)", x.kind(5), 1);
        shape(x, 6, -1, -2, -3, -4, -5);
        check.due("contrary to 0, turned about of 5: kind(6)", x.kind(6), 2);
        check.due("kind(5)", x.kind(5), 2);
        check.due("each its contrary alone is no trap: kind(0)", x.kind(0), 1);
        shape(x, 11, 1, 2, 3, 4, 5);
        check.due("just the shape of another: kind(0)", x.kind(0), 2);
        check.due("just the shape of another: kind(11)", x.kind(11), 2);
        x.bend(11, 4, 6);
        check.due("no more: kind(0)", x.kind(0), 1);
        shape(x, 7, 3, 3, 3, 3, 3);
        check.due("the same both ways, but contrary to itself: kind(7)", x.kind(7), 1);
        shape(x, 8, 2, -1, 0, 3, 4);
        shape(x, 9, 2, -1, 0, 3, 4);
        check.due("alike, but no bulges: kind(8)", x.kind(8), 0);
        for (int side : WRONG) {
            check.due("kind(" + side + ")", x.kind(side), CutOnce.UNKNOWN);
        }
    }

    private static void noStrangers() {
        CutOnce x = new CutOnce();
        check.due("1 by 1: unlike()", x.unlike(), CutOnce.STATE);
        check.due("1 by 1: traps(0)", x.traps(0), 0);
        x.picture(2, 1);
        check.due("2 by 1: unlike()", x.unlike(), CutOnce.STATE);
        check.due("2 by 1: traps(90)", x.traps(90), 0);
        x.picture(1, 2);
        check.due("1 by 2: unlike()", x.unlike(), CutOnce.STATE);
        x.picture(1, 3);
        check.due("1 by 3: unlike()", x.unlike(), 0);
        for (int d : new int[] {-1, -2, Integer.MIN_VALUE}) {
            check.due("traps(" + d + ")", x.traps(d), CutOnce.OUTSIDE);
        }
    }

    /** Three in a row: edges a and A of side 0, b and B of side 1; A and b are of one piece: a b, a B, A B. */
    private static void farnessOfTwoInARow() {
        CutOnce x = new CutOnce();
        x.picture(3, 1);
        check.due("3 by 1: traps(0)", x.traps(0), 3);
        shape(x, 0, 1, 2, 3, 4, 5);
        // a b: 15; a B (0): 15; A B: 15
        check.due("1 2 3 4 5 and 0: unlike()", x.unlike(), 15);
        check.due("traps(14)", x.traps(14), 0);
        check.due("traps(15)", x.traps(15), 3);
        check.due("traps(90)", x.traps(90), 3);
        check.due("traps(most)", x.traps(Integer.MAX_VALUE), 3);
        shape(x, 1, 5, 4, 3, 2, 2);
        // a b: 1 and 2, 2 and 2, 3 and 3, 4 and 4, 5 and 5: 29 + 2; a B: 1 2 3 4 5 less 5 4 3 2 2: 4 2 0 2 3; A B: 31
        check.due("1 2 3 4 5 and 5 4 3 2 2: unlike()", x.unlike(), 11);
        check.due("traps(11)", x.traps(11), 1);
        check.due("traps(30)", x.traps(30), 1);
        check.due("traps(31)", x.traps(31), 3);
        // now A and b, which are of one piece, fit: that does not count
        shape(x, 1, 1, 2, 3, 4, 5);
        check.due("a B fit: unlike()", x.unlike(), 0);
        check.due("a B fit: traps(0)", x.traps(0), 1);
        shape(x, 0, 9, 9, 9, 9, 9);
        shape(x, 1, -9, -9, -9, -9, -9);
        // a b: 0; A B: 0; a B: 90
        check.due("9 and -9: traps(0)", x.traps(0), 2);
        check.due("9 and -9: traps(89)", x.traps(89), 2);
        check.due("9 and -9: traps(90)", x.traps(90), 3);
    }

    private static void leastFarness() {
        CutOnce x = threeByThree();
        x.make(42);
        check.due("made from 42: unlike()", x.unlike(), 12);
        int least = Integer.MAX_VALUE;
        int within = 0;
        for (int p = 0; p < 9; p++) {
            for (int q = p + 1; q < 9; q++) {
                for (int e = 0; e < 4; e++) {
                    int f = (p + q + e) % 4;
                    if (x.sideOf(p, e) >= 0 && x.sideOf(q, f) >= 0 && x.sideOf(p, e) != x.sideOf(q, f)) {
                        least = Math.min(least, x.far(p, e, q, f));
                        within++;
                    }
                }
            }
        }
        check.holds("no pair is less far than unlike() tells", least >= 12 && within > 0);
        check.due("made from 42: traps(11)", x.traps(11), 0);
        check.holds("made from 42: traps(12) finds one", x.traps(12) >= 1);
        // 24 edges; 276 pairs; less 12 of mates; less those of one piece: corners 1 each, borders 3, the middle 6
        check.due("all pairs: traps(90)", x.traps(90), 276 - 12 - 4 - 12 - 6);
    }

    private static void flatAreNoStrangers() {
        CutOnce x = new CutOnce();
        x.picture(2, 2);
        for (int side = 0; side < 4; side++) {
            shape(x, side, 1, 1, 1, 1, 1);
        }
        // 8 edges; 28 pairs; 4 of mates; 4 of one piece
        int fitting = 0;
        for (int p = 0; p < 4; p++) {
            for (int q = p + 1; q < 4; q++) {
                for (int e = 0; e < 4; e++) {
                    for (int f = 0; f < 4; f++) {
                        boolean counts = x.sideOf(p, e) >= 0 && x.sideOf(q, f) >= 0 && x.sideOf(p, e) != x.sideOf(q, f);
                        fitting += counts && x.edge(p, e, 0) == -x.edge(q, f, 0) ? 1 : 0;
                    }
                }
            }
        }
        check.due("2 by 2, all bulge alike: traps(0)", x.traps(0), fitting);
        check.due("2 by 2, all bulge alike: traps(9)", x.traps(9), fitting);
        check.due("2 by 2, all bulge alike: traps(10)", x.traps(10), 28 - 4 - 4);
    }

    /** unlike() and traps() by far() of all pairs. */
    private static void allPairs() {
        int[][] measures = {{3, 1}, {1, 4}, {2, 2}, {3, 3}, {4, 3}, {5, 5}};
        for (int[] m : measures) {
            for (long seed = 0; seed < 6; seed++) {
                int[] pairs = new int[91];
                int least = 91;
                for (int p = 0; p < m[0] * m[1]; p++) {
                    for (int q = p + 1; q < m[0] * m[1]; q++) {
                        // another object for each pair: an object is good for 512 calls
                        CutOnce x = made(m, seed);
                        for (int ef = 0; ef < 16; ef++) {
                            int e = ef / 4;
                            int f = ef % 4;
                            if (x.sideOf(p, e) >= 0 && x.sideOf(q, f) >= 0 && x.sideOf(p, e) != x.sideOf(q, f)) {
                                int far = x.far(p, e, q, f);
                                least = Math.min(least, far);
                                pairs[far]++;
                            }
                        }
                    }
                }
                CutOnce x = made(m, seed);
                String what = m[0] + " by " + m[1] + " made from " + seed;
                check.due(what + ": unlike()", x.unlike(), least);
                int within = 0;
                for (int d = 0; d <= 90; d++) {
                    within += pairs[d];
                    check.due(what + ": traps(" + d + ")", x.traps(d), within);
                }
            }
        }
    }

    private static CutOnce made(int[] measures, long seed) {
        CutOnce x = new CutOnce();
        x.picture(measures[0], measures[1]);
        x.make(seed);
        return x;
    }

    private static void madeAlike() {
        CutOnce x = threeByThree();
        shape(x, 0, 1, 2, 3, 4, 5);
        shape(x, 1, 1, 0, 3, 0, 5);
        check.due("alike(1, 0, 0)", x.alike(1, 0, 0), 2);
        check.due("alike(1, 0, 0) again", x.alike(1, 0, 0), 0);
        check.due("alike(2, 0, 1)", x.alike(2, 0, 1), 5);
        for (int i = 0; i < 5; i++) {
            check.due("height(0, " + i + ")", x.height(0, i), i + 1);
            check.due("height(1, " + i + ")", x.height(1, i), i + 1);
            check.due("height(2, " + i + ")", x.height(2, i), i - 5);
        }
        shape(x, 3, -5, 9, 9, 9, -1);
        check.due("alike(3, 1, 1)", x.alike(3, 1, 1), 3);
        check.due("alike(11, 3, 1)", x.alike(11, 3, 1), 5);
        check.due("height(11, 0)", x.height(11, 0), 1);
        x.bend(3, 0, 7);
        check.due("a shape is given, not lent: height(11, 4)", x.height(11, 4), 5);
    }

    private static void madeAlikeRefused() {
        CutOnce x = threeByThree();
        shape(x, 0, 1, 2, 3, 4, 5);
        for (int bad : WRONG) {
            check.due("alike(" + bad + ", 0, 0)", x.alike(bad, 0, 0), CutOnce.UNKNOWN);
            check.due("alike(1, " + bad + ", 0)", x.alike(1, bad, 0), CutOnce.UNKNOWN);
            check.due("alike(" + bad + ", " + bad + ", 2): UNKNOWN comes first", x.alike(bad, bad, 2), CutOnce.UNKNOWN);
        }
        for (int way : new int[] {Integer.MIN_VALUE, -1, 2, Integer.MAX_VALUE}) {
            check.due("alike(1, 0, " + way + ")", x.alike(1, 0, way), CutOnce.OUTSIDE);
            check.due("alike(0, 0, " + way + "): OUTSIDE ahead of STATE", x.alike(0, 0, way), CutOnce.OUTSIDE);
        }
        check.due("alike(0, 0, 0)", x.alike(0, 0, 0), CutOnce.STATE);
        check.due("alike(0, 0, 1)", x.alike(0, 0, 1), CutOnce.STATE);
        for (int i = 0; i < 5; i++) {
            check.due("refused: height(0, " + i + ")", x.height(0, i), i + 1);
            check.due("refused: height(1, " + i + ")", x.height(1, i), 0);
        }
    }
}
