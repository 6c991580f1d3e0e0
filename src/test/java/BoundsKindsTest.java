/** 'Terms' 2 and promises 10 to 13: each sentence that names a bound, an edge or a refusal has a test of its own. */
public final class BoundsKindsTest {
    private static final int MOST = State.MOST;
    private static final int LEAST = State.LEAST;

    public static void main(String[] args) {
        Sentences.holdAll(BoundsKindsTest.class);
    }

    /** 2 by 2, all heights 0 but those of one side. */
    private static CutOnce bent(int side, int... heights) {
        CutOnce x = State.picture(2, 2);
        State.bend(x, side, heights);
        return x;
    }

    // ---- Terms 2

    static void terms_2_BULGE_allHeightsAbove0(Check check) {
        check.due("1 five times", bent(0, 1, 1, 1, 1, 1).kind(0), 1);
        check.due("9 five times", bent(3, 9, 9, 9, 9, 9).kind(3), 1);
        check.due("1 9 1 9 1", bent(1, 1, 9, 1, 9, 1).kind(1), 1);
    }

    static void terms_2_BULGE_allHeightsBelow0(Check check) {
        check.due("-1 five times", bent(0, -1, -1, -1, -1, -1).kind(0), 1);
        check.due("-9 five times", bent(3, -9, -9, -9, -9, -9).kind(3), 1);
        check.due("-1 -9 -1 -9 -1", bent(1, -1, -9, -1, -9, -1).kind(1), 1);
    }

    static void terms_2_SIDE_oneHeightIs0WhereverItIs(Check check) {
        for (int at = 0; at < 5; at++) {
            for (int v : new int[] {1, -1}) {
                CutOnce x = bent(2, v, v, v, v, v);
                check.due(v + " five times: kind(2)", x.kind(2), 1);
                x.bend(2, at, 0);
                check.due(v + ", but 0 at " + at + ": kind(2)", x.kind(2), 0);
            }
        }
    }

    static void terms_2_SIDE_oneHeightIsOfTheOtherSignWhereverItIs(Check check) {
        for (int at = 0; at < 5; at++) {
            for (int v : new int[] {9, -9}) {
                CutOnce x = bent(2, v, v, v, v, v);
                x.bend(2, at, -v / 9);
                check.due(v + ", but " + -v / 9 + " at " + at + ": kind(2)", x.kind(2), 0);
            }
        }
    }

    static void terms_2_SIDE_allHeights0(Check check) {
        CutOnce x = State.picture(5, 5);
        for (int side = 0; side < 40; side++) {
            check.due("kind(" + side + ")", x.kind(side), 0);
        }
    }

    static void terms_2_TRAP_someOtherSIDEHasJustTheSHAPE(Check check) {
        CutOnce x = State.picture(5, 5);
        State.bend(x, 0, 1, 2, 3, 4, 5);
        check.due("kind(0) alone", x.kind(0), 1);
        State.bend(x, 39, 1, 2, 3, 4, 5);
        check.due("the last has it: kind(0)", x.kind(0), 2);
        check.due("the first has it: kind(39)", x.kind(39), 2);
        for (int at = 0; at < 5; at++) {
            x.bend(39, at, at + 2);
            check.due("another height at " + at + ": kind(0)", x.kind(0), 1);
            x.bend(39, at, at + 1);
        }
        check.due("just the shape again: kind(0)", x.kind(0), 2);
    }

    static void terms_2_TRAP_thatTheOtherWayRoundEachItsContrary(Check check) {
        CutOnce x = State.picture(5, 5);
        State.bend(x, 20, 1, 2, 3, 4, 5);
        State.bend(x, 19, -5, -4, -3, -2, -1);
        check.due("kind(20)", x.kind(20), 2);
        check.due("kind(19)", x.kind(19), 2);
        for (int at = 0; at < 5; at++) {
            x.bend(19, at, at - 6);
            check.due("another height at " + at + ": kind(20)", x.kind(20), 1);
            x.bend(19, at, at - 5);
        }
    }

    static void terms_2_TRAP_notTheOtherWayRoundAlone(Check check) {
        CutOnce x = bent(0, 1, 2, 3, 4, 5);
        State.bend(x, 1, 5, 4, 3, 2, 1);
        check.due("kind(0)", x.kind(0), 1);
        check.due("kind(1)", x.kind(1), 1);
    }

    static void terms_2_TRAP_notEachItsContraryAlone(Check check) {
        CutOnce x = bent(0, 1, 2, 3, 4, 5);
        State.bend(x, 1, -1, -2, -3, -4, -5);
        check.due("kind(0)", x.kind(0), 1);
        check.due("kind(1)", x.kind(1), 1);
    }

    static void terms_2_TRAP_noneButABULGEIsOne(Check check) {
        CutOnce x = bent(0, 1, 2, 0, 4, 5);
        State.bend(x, 1, 1, 2, 0, 4, 5);
        State.bend(x, 2, -5, -4, 0, -2, -1);
        for (int side = 0; side < 4; side++) {
            check.due("kind(" + side + ")", x.kind(side), 0);
        }
    }

    static void terms_2_TRAP_itselfIsNoOtherSIDE(Check check) {
        CutOnce x = State.picture(2, 1);
        State.bend(x, 0, 1, 1, 1, 1, 1);
        check.due("the one side there is: kind(0)", x.kind(0), 1);
    }

    static void terms_2_TRAP_threeOfOneShapeAreAll(Check check) {
        CutOnce x = bent(0, 3, 3, 3, 3, 3);
        State.bend(x, 1, -3, -3, -3, -3, -3);
        State.bend(x, 3, 3, 3, 3, 3, 3);
        int[] due = {2, 2, 0, 2};
        for (int side = 0; side < 4; side++) {
            check.due("kind(" + side + ")", x.kind(side), due[side]);
        }
    }

    static void terms_2_ofSeveralTheGreatestCounts(Check check) {
        CutOnce x = bent(0, 9, 9, 9, 9, 9);
        check.due("a SIDE and a BULGE: kind(0)", x.kind(0), 1);
        State.bend(x, 3, 9, 9, 9, 9, 9);
        check.due("a SIDE, a BULGE and a TRAP: kind(0)", x.kind(0), 2);
    }

    static void terms_2_UNLIKE_noMates(Check check) {
        // mates FIT always: they would make it 0
        CutOnce x = State.picture(3, 1);
        State.bend(x, 0, 1, 0, 0, 0, 0);
        check.due("3 by 1: unlike()", x.unlike(), 1);
        check.due("3 by 1: traps(0)", x.traps(0), 0);
    }

    static void terms_2_UNLIKE_neitherFLAT(Check check) {
        // a FLAT one is no EDGE of heights 0
        CutOnce x = State.picture(2, 2);
        for (int side = 0; side < 4; side++) {
            State.bend(x, side, 1 + side, 9, 9, 9, 9);
        }
        check.due("unlike()", x.unlike(), 1);
        int pairs = 28 - 4 - 4;
        check.due("traps(90)", x.traps(90), pairs);
    }

    static void terms_2_UNLIKE_ofUnlikePIECES(Check check) {
        // the left edge of 1 and its right one FIT; all others are 10 or more from one another
        CutOnce x = State.picture(3, 1);
        State.bend(x, 0, 1, 1, 1, 1, 1);
        State.bend(x, 1, 1, 1, 1, 1, 1);
        check.due("far(1, 1, 1, 3)", x.far(1, 1, 1, 3), 0);
        check.due("far(0, 1, 2, 3)", x.far(0, 1, 2, 3), 0);
        check.due("far(0, 1, 1, 1)", x.far(0, 1, 1, 1), 10);
        check.due("the pair of 0 and 2 alone: traps(0)", x.traps(0), 1);
        check.due("and those of 1 with them: traps(10)", x.traps(10), 3);
        check.due("none of 1 with itself: traps(90)", x.traps(90), 3);
    }

    static void terms_2_UNLIKE_piecesThatLookAlikeAreUnlikeOnes(Check check) {
        // the corners of a square of heights 0 look alike, turned
        CutOnce x = State.picture(2, 2);
        check.due("unlike()", x.unlike(), 0);
        check.due("traps(0)", x.traps(0), 28 - 4 - 4);
    }

    static void terms_2_UNLIKE_theLeast(Check check) {
        CutOnce x = State.picture(1, 3);
        State.bend(x, 0, 9, 9, 9, 9, 9);
        check.due("9 and 0: unlike()", x.unlike(), 45);
        State.bend(x, 1, 9, 9, 9, 9, 9);
        check.due("9 and 9: unlike()", x.unlike(), 0);
        x.bend(1, 4, 2);
        check.due("9 and 9 with a 2: unlike()", x.unlike(), 7);
        State.bend(x, 1, -9, -9, -9, -9, 9);
        check.due("9 and -9 with a 9: unlike()", x.unlike(), 18);
    }

    // ---- 10 kind

    static void promise10_kind_0SIDE1BULGE2TRAP(Check check) {
        CutOnce x = State.full();
        int[] due = {0, 1, 2, 2, 0, 1, 0};
        for (int side = 0; side < 7; side++) {
            check.due("kind(" + side + ")", x.kind(side), due[side]);
        }
    }

    static void promise10_kind_ofTheFirstAndTheLastSIDE(Check check) {
        CutOnce x = State.picture(5, 5);
        State.bend(x, 0, 1, 1, 1, 1, 1);
        State.bend(x, 39, -1, -1, -1, -1, -2);
        check.due("kind(0)", x.kind(0), 1);
        check.due("kind(39)", x.kind(39), 1);
        check.due("kind(40)", x.kind(40), CutOnce.UNKNOWN);
    }

    static void promise10_kind_changesNothing(Check check) {
        State.untouched(check, "kind(0)", x -> x.kind(0));
        State.untouched(check, "kind(1)", x -> x.kind(1));
        State.untouched(check, "kind(2)", x -> x.kind(2));
    }

    static void promise10_kind_UNKNOWN_noSuchSIDE(Check check) {
        for (int side : new int[] {LEAST, -1, 7, 8, 40, MOST}) {
            State.refused(check, State::full, "kind(" + side + ")", x -> x.kind(side), CutOnce.UNKNOWN, State.STAYS);
        }
    }

    static void promise10_kind_ofSIDESThatAreNoMoreIsNotLookedAt(Check check) {
        CutOnce x = State.picture(5, 5);
        State.bend(x, 39, 1, 2, 3, 4, 5);
        x.picture(2, 1);
        State.bend(x, 0, 1, 2, 3, 4, 5);
        check.due("kind(0)", x.kind(0), 1);
    }

    // ---- 11 unlike

    static void promise11_unlike_STATE_thereAreNoSuchEDGES(Check check) {
        for (int[] m : new int[][] {{1, 1}, {2, 1}, {1, 2}}) {
            State.Maker maker = () -> {
                CutOnce x = State.made(m[0], m[1], 5);
                x.heap(6);
                x.join();
                return x;
            };
            State.refused(check, maker, m[0] + " by " + m[1] + ": unlike()", x -> x.unlike(), CutOnce.STATE, State.STAYS);
        }
    }

    static void promise11_unlike_theLeastPicturesThatHaveSuchEDGES(Check check) {
        check.due("3 by 1: unlike()", State.picture(3, 1).unlike(), 0);
        check.due("1 by 3: unlike()", State.picture(1, 3).unlike(), 0);
        check.due("2 by 2: unlike()", State.picture(2, 2).unlike(), 0);
    }

    static void promise11_unlike_ofTwoPIECESThatFollowOneAnotherByNumber(Check check) {
        // the edges to the left of 1 and above 2 FIT, those of the same sides at 0 are of one piece
        CutOnce x = State.picture(2, 2);
        State.bend(x, 0, 9, 9, 9, 9, 9);
        State.bend(x, 2, -9, -9, -9, -9, -9);
        State.bend(x, 1, 9, -9, 9, -9, 9);
        State.bend(x, 3, 9, 9, 0, 9, -9);
        check.due("far(1, 3, 2, 0)", x.far(1, 3, 2, 0), 0);
        check.due("far(0, 1, 0, 2)", x.far(0, 1, 0, 2), 0);
        check.due("unlike()", x.unlike(), 0);
        check.due("traps(0)", x.traps(0), 1);
    }

    static void promise11_unlike_theLeastOfAllPairs(Check check) {
        for (long seed = 0; seed < 12; seed++) {
            int least = 91;
            for (int p = 0; p < 25; p++) {
                for (int q = 0; q < p; q++) {
                    least = Math.min(least, leastOf(State.made(5, 5, seed), p, q));
                }
            }
            check.due("5 by 5 made from " + seed + ": unlike()", State.made(5, 5, seed).unlike(), least);
        }
    }

    private static int leastOf(CutOnce x, int p, int q) {
        int least = 91;
        for (int e = 0; e < 4; e++) {
            for (int f = 0; f < 4; f++) {
                int side = x.sideOf(p, e);
                if (side >= 0 && x.sideOf(q, f) >= 0 && x.sideOf(q, f) != side) {
                    least = Math.min(least, x.far(p, e, q, f));
                }
            }
        }
        return least;
    }

    static void promise11_unlike_changesNothing(Check check) {
        State.untouched(check, "unlike()", x -> x.unlike());
    }

    // ---- 12 traps

    static void promise12_traps_OUTSIDE_dBelow0(Check check) {
        for (int d : new int[] {LEAST, -2, -1}) {
            State.refused(check, State::full, "traps(" + d + ")", x -> x.traps(d), CutOnce.OUTSIDE, State.STAYS);
        }
        check.due("1 by 1: traps(-1)", new CutOnce().traps(-1), CutOnce.OUTSIDE);
    }

    static void promise12_traps_changesNothing(Check check) {
        State.untouched(check, "traps(0)", x -> x.traps(0));
        State.untouched(check, "traps(90)", x -> x.traps(90));
    }

    static void promise12_traps_dOf0CountsThoseThatFIT(Check check) {
        CutOnce x = State.full();
        // sides 2 and 3 are turned about of one another: the edges of 3 and 4, that of 4 and 5
        check.due("far(3, 1, 4, 1)", x.far(3, 1, 4, 1), 0);
        check.due("far(4, 3, 5, 3)", x.far(4, 3, 5, 3), 0);
        check.due("traps(0)", x.traps(0), 2);
    }

    static void promise12_traps_FARByDOrLess(Check check) {
        CutOnce x = State.picture(3, 1);
        State.bend(x, 0, 9, 9, 9, 9, 9);
        State.bend(x, 1, 9, 9, 9, 9, 8);
        // of 0 and 2: 1; of 1 with 0, and with 2: 89
        int[][] due = {{0, 0}, {1, 1}, {2, 1}, {88, 1}, {89, 3}, {90, 3}};
        for (int[] d : due) {
            check.due("traps(" + d[0] + ")", x.traps(d[0]), d[1]);
        }
    }

    static void promise12_traps_anyDFrom0OnIsAsTold(Check check) {
        CutOnce x = State.picture(3, 1);
        check.due("traps(91)", x.traps(91), 3);
        check.due("traps(most)", x.traps(MOST), 3);
        check.due("1 by 1: traps(most)", new CutOnce().traps(MOST), 0);
    }

    static void promise12_traps_0WhereThereAreNoSuchEDGES(Check check) {
        for (int[] m : new int[][] {{1, 1}, {2, 1}, {1, 2}}) {
            for (int d : new int[] {0, 90, MOST}) {
                check.due(m[0] + " by " + m[1] + ": traps(" + d + ")", State.picture(m[0], m[1]).traps(d), 0);
            }
        }
    }

    static void promise12_traps_eachPairOnceInEachPicture(Check check) {
        for (int w = 1; w <= 5; w++) {
            for (int h = 1; h <= 5; h++) {
                CutOnce x = State.made(w, h, 9);
                int edges = 2 * x.told(3);
                int pairs = edges * (edges - 1) / 2 - x.told(3);
                for (int p = 0; p < w * h; p++) {
                    int own = 0;
                    for (int e = 0; e < 4; e++) {
                        own += x.sideOf(p, e) >= 0 ? 1 : 0;
                    }
                    pairs -= own * (own - 1) / 2;
                }
                check.due(w + " by " + h + ": traps(90)", x.traps(90), pairs);
            }
        }
        check.due("5 by 5: traps(90)", State.picture(5, 5).traps(90), 3026);
    }

    // ---- 13 alike

    private static void alikeRefused(Check check, int a, int b, int way, int answer) {
        String call = "alike(" + a + ", " + b + ", " + way + ")";
        State.refused(check, State::full, call, x -> x.alike(a, b, way), answer, State.STAYS);
    }

    private static void heights(Check check, CutOnce x, int side, int... due) {
        for (int i = 0; i < 5; i++) {
            check.due("height(" + side + ", " + i + ")", x.height(side, i), due[i]);
        }
    }

    static void promise13_alike_way0TheSHAPE(Check check) {
        CutOnce x = State.full();
        check.due("alike(6, 1, 0)", x.alike(6, 1, 0), 5);
        heights(check, x, 6, 1, 2, 3, 4, 5);
        heights(check, x, 1, 1, 2, 3, 4, 5);
    }

    static void promise13_alike_way1TheOtherWayRoundEachItsContrary(Check check) {
        CutOnce x = State.full();
        check.due("alike(6, 1, 1)", x.alike(6, 1, 1), 5);
        heights(check, x, 6, -5, -4, -3, -2, -1);
        heights(check, x, 1, 1, 2, 3, 4, 5);
    }

    static void promise13_alike_changesNoOtherSIDE(Check check) {
        for (int way = 0; way < 2; way++) {
            CutOnce x = State.full();
            x.alike(0, 6, way);
            var got = State.reading(x);
            var want = State.reading(State.full());
            want.keySet().removeIf(call -> call.startsWith("joined") || call.startsWith("height(0,"));
            got.keySet().retainAll(want.keySet());
            check.same("behind alike(0, 6, " + way + ")", got, want);
        }
    }

    static void promise13_alike_answersHowManyBecameOtherOnesFrom0To5(Check check) {
        for (int n = 0; n <= 5; n++) {
            CutOnce x = State.picture(2, 2);
            for (int i = 0; i < n; i++) {
                x.bend(1, i, i - 9);
            }
            check.due(n + " others: alike(0, 1, 0)", x.alike(0, 1, 0), n);
            check.due("again: alike(0, 1, 0)", x.alike(0, 1, 0), 0);
            check.due("the other way round: alike(2, 1, 1)", x.alike(2, 1, 1), n);
            check.due("again: alike(2, 1, 1)", x.alike(2, 1, 1), 0);
            check.due("back again: alike(0, 2, 1)", x.alike(0, 2, 1), 0);
        }
    }

    static void promise13_alike_oneThatIsItsOwnContraryTheOtherWayRound(Check check) {
        CutOnce x = State.picture(2, 1);
        check.due("the one side there is: alike(0, 0, 1)", x.alike(0, 0, 1), CutOnce.STATE);
        x = State.picture(2, 2);
        State.bend(x, 1, 4, -3, 0, 3, -4);
        check.due("alike(0, 1, 1)", x.alike(0, 1, 1), 4);
        heights(check, x, 0, 4, -3, 0, 3, -4);
        check.due("alike(0, 1, 0)", x.alike(0, 1, 0), 0);
    }

    static void promise13_alike_leastAndGreatestHeights(Check check) {
        CutOnce x = State.picture(2, 2);
        State.bend(x, 3, 9, -9, 9, -9, 9);
        check.due("alike(0, 3, 1)", x.alike(0, 3, 1), 5);
        heights(check, x, 0, -9, 9, -9, 9, -9);
    }

    static void promise13_alike_UNKNOWN_noSuchSIDE(Check check) {
        for (int side : new int[] {LEAST, -1, 7, 8, 40, MOST}) {
            alikeRefused(check, side, 0, 0, -1);
            alikeRefused(check, 0, side, 1, -1);
        }
    }

    static void promise13_alike_OUTSIDE_way(Check check) {
        for (int way : new int[] {LEAST, -1, 2, 3, MOST}) {
            alikeRefused(check, 0, 1, way, -2);
        }
    }

    static void promise13_alike_STATE_bothAreOne(Check check) {
        for (int side = 0; side < 7; side++) {
            alikeRefused(check, side, side, 0, -3);
            alikeRefused(check, side, side, 1, -3);
        }
    }

    static void promise13_alike_severalAtOnce_UNKNOWNAheadOfOUTSIDEAndSTATE(Check check) {
        alikeRefused(check, 7, 0, 2, -1);
        alikeRefused(check, 0, 7, 2, -1);
        alikeRefused(check, 7, 7, 0, -1);
        alikeRefused(check, -1, -1, -1, -1);
    }

    static void promise13_alike_severalAtOnce_OUTSIDEAheadOfSTATE(Check check) {
        alikeRefused(check, 0, 0, 2, -2);
        alikeRefused(check, 6, 6, -1, -2);
    }
}
