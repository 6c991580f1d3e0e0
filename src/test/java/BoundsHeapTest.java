import java.math.BigInteger;
import java.util.function.Consumer;

/** 'Terms' 3 and promises 14 to 24: each sentence that names a bound, an edge or a refusal has a test of its own. */
public final class BoundsHeapTest {
    private static final int MOST = State.MOST;
    private static final int LEAST = State.LEAST;
    private static final int[] NO_WHAT = {LEAST, -1, 2, 3, MOST};

    public static void main(String[] args) {
        Sentences.holdAll(BoundsHeapTest.class);
    }

    private static void refused(Check check, String name, State.Call call, int answer) {
        State.refused(check, State::full, name, call, answer, State.STAYS);
    }

    /** The ways and the trials of a heap of these pieces, none of them turned. */
    private static void searched(Check check, String what, CutOnce x, int ways, int trials) {
        check.due(what + ": ways()", x.ways(), ways);
        check.due(what + ": trials()", x.trials(), trials);
    }

    // ---- Terms 3

    static void terms_3_THEHEAP_atFirstEmpty(Check check) {
        CutOnce x = new CutOnce();
        check.due("told(4)", x.told(4), 0);
        x.picture(5, 5);
        check.due("told(4)", x.told(4), 0);
        check.due("missing(0)", x.missing(0), 25);
    }

    static void terms_3_THEHEAP_of25AtMost(Check check) {
        CutOnce x = new CutOnce();
        for (int n = 1; n <= 25; n++) {
            check.due("lay(0, 0)", x.lay(0, 0), n);
        }
        check.due("lay(0, 0)", x.lay(0, 0), CutOnce.FULL);
        check.due("told(4)", x.told(4), 25);
        check.due("heaped(24, 0)", x.heaped(24, 0), 0);
        check.due("heaped(25, 0)", x.heaped(25, 0), CutOnce.UNKNOWN);
    }

    static void terms_3_TURN_0To3(Check check) {
        CutOnce x = new CutOnce();
        for (int turn = 0; turn < 4; turn++) {
            check.due("lay(0, " + turn + ")", x.lay(0, turn), turn + 1);
            check.due("heaped(" + turn + ", 1)", x.heaped(turn, 1), turn);
        }
    }

    static void terms_3_TURN_whatWasEDGEEIsEDGEEAndTURNBy4TheRest(Check check) {
        // at the left of 2 by 1 piece 0 shows its EDGE 1 to the right: turned by TURN, and by what is left to 4
        for (int turn = 0; turn < 4; turn++) {
            CutOnce x = State.picture(2, 1);
            State.bend(x, 0, 1, 2, 3, 4, 5);
            x.lay(0, turn);
            x.lay(1, 3 - turn);
            check.due("turned by " + turn + ": join()", x.join(), 1);
            check.due("joined(0, 0)", x.joined(0, 0), 0);
            check.due("joined(0, 1)", x.joined(0, 1), (4 - turn) % 4);
            check.due("joined(1, 0)", x.joined(1, 0), 1);
            check.due("joined(1, 1)", x.joined(1, 1), (1 + turn) % 4);
        }
    }

    static void terms_3_TURN_quartersWithTheHandsOfAClock(Check check) {
        // 1 by 2: piece 0's EDGE below; turned by one quarter it is to the left, so three further make it below again
        CutOnce x = State.picture(1, 2);
        State.bend(x, 0, 1, 0, 0, 0, 0);
        x.lay(0, 1);
        x.lay(1, 0);
        check.due("join()", x.join(), 1);
        check.due("joined(0, 1)", x.joined(0, 1), 3);
        check.due("joined(1, 1)", x.joined(1, 1), 0);
    }

    static void terms_3_PUTTINGTOGETHER_eachOfTHEHEAPAtMostOnce(Check check) {
        // a corner fits each place of 2 by 2, if all heights are 0
        CutOnce x = State.picture(2, 2);
        State.lay(x, 0, 0, 0);
        searched(check, "three corners", x, 0, 12 + 3 * 8 + 6 * 4);
        x.lay(0, 0);
        searched(check, "four corners", x, 24, 16 + 4 * 12 + 12 * 8 + 24 * 4);
    }

    static void terms_3_PUTTINGTOGETHER_eachPlaceGetsOneAndSomeMayBeLeft(Check check) {
        CutOnce x = State.picture(2, 2);
        State.lay(x, 0, 0, 0, 0, 0);
        check.due("five corners: ways()", x.ways(), 120);
        x.take(4);
        x.take(3);
        check.due("three corners: ways()", x.ways(), 0);
    }

    static void terms_3_PUTTINGTOGETHER_turnedFurtherBy0To3Quarters(Check check) {
        for (int turn = 0; turn < 4; turn++) {
            CutOnce x = State.picture(2, 2);
            x.lay(0, turn);
            x.lay(1, turn);
            x.lay(2, turn);
            x.lay(3, turn);
            State.bend(x, 0, 1, 1, 1, 1, 1);
            State.bend(x, 1, 2, 2, 2, 2, 2);
            State.bend(x, 2, 3, 3, 3, 3, 3);
            State.bend(x, 3, 4, 4, 4, 4, 4);
            check.due("all turned by " + turn + ": ways()", x.ways(), 4);
            check.due("join()", x.join(), 1);
            for (int place = 0; place < 4; place++) {
                check.due("joined(" + place + ", 0)", x.joined(place, 0), place);
                check.due("joined(" + place + ", 1)", x.joined(place, 1), (4 - turn) % 4);
            }
        }
    }

    static void terms_3_PUTTINGTOGETHER_theBorderIsFLAT(Check check) {
        // pieces of the middle have no FLAT EDGE: of 36 none lies at the corner
        CutOnce x = State.picture(3, 3);
        State.lay(x, 4, 4, 4, 4, 4, 4, 4, 4, 4);
        searched(check, "nine of the middle", x, 0, 36);
        // of the border above, a corner's place asks for another FLAT EDGE
        x = State.picture(3, 3);
        State.lay(x, 1, 1, 1, 1, 1, 1, 1, 1, 1);
        searched(check, "nine of the border", x, 0, 36);
        // the end of the row shows an EDGE that is not FLAT to the right
        x = State.picture(3, 1);
        State.lay(x, 0, 1, 1);
        searched(check, "3 by 1 without an end", x, 0, 12 + 8 + 4 * 4);
        // below: 1 by 3
        x = State.picture(1, 3);
        State.lay(x, 0, 1, 1);
        searched(check, "1 by 3 without an end", x, 0, 12 + 8 + 4 * 4);
    }

    static void terms_3_PUTTINGTOGETHER_noFLATEDGELiesWithin(Check check) {
        // an end in the middle of a row would show FLAT to what lies to the right of it
        CutOnce x = State.picture(3, 1);
        State.lay(x, 0, 0, 0);
        searched(check, "3 by 1, three ends", x, 0, 12 + 3 * 8);
        x = State.picture(1, 3);
        State.lay(x, 0, 0, 0);
        searched(check, "1 by 3, three ends", x, 0, 12 + 3 * 8);
        // a piece that is FLAT all around fits 1 by 1 alone: there is none in another picture; corners in the middle
        x = State.picture(3, 3);
        State.lay(x, 0, 1, 2, 3, 0, 5, 6, 7, 8);
        check.due("3 by 3, a corner more for the middle: ways()", x.ways(), 0);
    }

    static void terms_3_PUTTINGTOGETHER_anEDGEOfTheLeastOrTheGreatestHeightsIsNotFLAT(Check check) {
        for (int v : new int[] {-9, 0, 9}) {
            CutOnce x = State.picture(2, 1);
            State.bend(x, 0, v, v, v, v, v);
            State.lay(x, 0, 1);
            searched(check, "2 by 1 of " + v, x, 2, 8 + 2 * 4);
            x = State.picture(3, 1);
            State.bend(x, 0, v, v, v, v, v);
            State.bend(x, 1, -v, -v, -v, -v, -v);
            State.lay(x, 1, 1, 1);
            searched(check, "three of the middle of " + v, x, 0, 12);
        }
    }

    static void terms_3_PUTTINGTOGETHER_EDGESNextToOneAnotherFIT(Check check) {
        CutOnce x = State.picture(2, 1);
        State.bend(x, 0, 1, 0, 0, 0, 0);
        State.lay(x, 0, 0);
        searched(check, "left and left", x, 0, 8 + 2 * 4);
        x = State.picture(1, 2);
        State.bend(x, 0, 1, 0, 0, 0, 0);
        State.lay(x, 0, 0);
        searched(check, "above and above", x, 0, 8 + 2 * 4);
        x = State.picture(2, 1);
        State.bend(x, 0, 1, 0, 0, 0, -1);
        State.lay(x, 0, 0);
        searched(check, "left and left, that is its own contrary the other way round", x, 2, 8 + 2 * 4);
    }

    static void terms_3_WAYS_THEHEAPsPlacesAreToldApart(Check check) {
        CutOnce x = State.picture(2, 1);
        State.bend(x, 0, 3, 0, 0, 0, 0);
        State.lay(x, 0, 1);
        check.due("one of each: ways()", x.ways(), 2);
        x.lay(0, 0);
        check.due("0 once more: ways()", x.ways(), 4);
        x.lay(1, 0);
        check.due("both once more: ways()", x.ways(), 8);
    }

    static void terms_3_WAYS_turnsAreToldApart(Check check) {
        CutOnce x = new CutOnce();
        x.lay(0, 0);
        check.due("1 by 1: ways()", x.ways(), 4);
    }

    static void terms_3_WAYS_piecesThatAreAlikeAreToldApart(Check check) {
        // pieces 0 and 1 of 2 by 1 are alike, if all heights are 0
        CutOnce x = State.picture(2, 1);
        State.lay(x, 0, 1);
        check.due("two that are alike: ways()", x.ways(), 2);
        x.lay(0, 0);
        check.due("three that are alike: ways()", x.ways(), 6);
    }

    static void terms_3_SEARCH_eachThatIsNotUsedYetCountsOneTRIAL(Check check) {
        CutOnce x = new CutOnce();
        for (int n = 0; n <= 25; n++) {
            searched(check, n + " in 1 by 1", x, 4 * n, 4 * n);
            x.lay(0, n % 4);
        }
        x = State.picture(2, 1);
        State.lay(x, 0, 1, 0, 1);
        searched(check, "four in 2 by 1", x, 12, 16 + 4 * 12);
    }

    static void terms_3_SEARCH_noneForAnEmptyHEAP(Check check) {
        searched(check, "1 by 1", new CutOnce(), 0, 0);
        searched(check, "5 by 5", State.picture(5, 5), 0, 0);
        CutOnce x = new CutOnce();
        check.due("join()", x.join(), 0);
        check.due("trials()", x.trials(), 0);
    }

    static void terms_3_SEARCH_theRowFromItsFirstOnTurnsFrom0On(Check check) {
        CutOnce x = new CutOnce();
        x.lay(0, 3);
        x.lay(0, 1);
        check.due("1 by 1: join()", x.join(), 1);
        check.due("trials()", x.trials(), 1);
        check.due("joined(0, 0)", x.joined(0, 0), 0);
        check.due("joined(0, 1)", x.joined(0, 1), 0);
        // the first that fits, with the first turn that fits
        x = State.picture(3, 1);
        x.lay(1, 0);
        x.lay(1, 1);
        x.lay(2, 1);
        x.lay(0, 0);
        check.due("3 by 1: join()", x.join(), 1);
        int[][] due = {{2, 1}, {0, 0}, {3, 2}};
        for (int place = 0; place < 3; place++) {
            check.due("joined(" + place + ", 0)", x.joined(place, 0), due[place][0]);
            check.due("joined(" + place + ", 1)", x.joined(place, 1), due[place][1]);
        }
        // 8 that are no ends, 2 turns of the end; 1; 4 of the middle one that is left, 3 turns of the other end
        check.due("trials()", x.trials(), 10 + 1 + 7);
    }

    static void terms_3_SEARCH_placesFrom0OnWhatLiesAboveAndLeftIsLookedAtAtOnce(Check check) {
        // 2 by 2: one that fits neither above nor left ends there; places are taken by rows
        CutOnce x = State.picture(2, 2);
        State.bend(x, 0, 1, 0, 0, 0, 0);
        State.bend(x, 1, 2, 0, 0, 0, 0);
        State.bend(x, 2, 3, 0, 0, 0, 0);
        State.bend(x, 3, 4, 0, 0, 0, 0);
        State.lay(x, 0, 1, 2, 3);
        // each of four at place 0; one fits to the right of it, one below, one at the last place
        searched(check, "a square of four", x, 4, 16 + 4 * (12 + 8 + 4));
    }

    /** A picture whose first side alone is bent, with so many of each piece in the heap. */
    private static CutOnce heapOf(int w, int h, int... times) {
        CutOnce x = State.picture(w, h);
        x.bend(0, 0, 1);
        for (int p = 0; p < times.length; p++) {
            for (int i = 0; i < times[p]; i++) {
                x.lay(p, 0);
            }
        }
        return x;
    }

    static void terms_3_SEARCH_just60000TRIALSAreNotSPENT(Check check) {
        // this heap and the next were found by trying many of them without a bound
        searched(check, "60000 trials", heapOf(4, 1, 9, 6, 4, 1), 3024, 60000);
    }

    static void terms_3_SEARCH_moreThan60000TRIALSAreSPENT(Check check) {
        searched(check, "60004 trials", heapOf(5, 1, 7, 3, 0, 2, 8), CutOnce.SPENT, 60000);
    }

    /** 3 by 2, two sides bent, and a heap found by trying many: its first way is found by the 60000th trial. */
    private static CutOnce longSearch(int turnOfTheLast) {
        CutOnce x = State.picture(3, 2);
        x.bend(2, 0, 1);
        x.bend(5, 0, 1);
        int[] pieces = {3, 3, 3, 3, 3, 3, 1, 3, 4, 3, 3, 1, 2, 1, 1, 0, 5, 1, 5, 2, 1, 0, 0, 1, 4};
        int[] turns = {0, 0, 0, 0, 0, 0, 3, 0, 2, 0, 0, 0, 3, 0, 0, 2, 0, 0, 0, 0, 0, 0, 0, 0, 0};
        turns[16] = turnOfTheLast;
        for (int i = 0; i < pieces.length; i++) {
            x.lay(pieces[i], turns[i]);
        }
        return x;
    }

    static void terms_3_SEARCH_aWayFoundByThe60000thTRIALIsOne(Check check) {
        CutOnce x = longSearch(0);
        check.due("join()", x.join(), 1);
        check.due("trials()", x.trials(), 60000);
        int[][] due = {{12, 0}, {6, 1}, {15, 3}, {0, 0}, {8, 2}, {16, 0}};
        for (int place = 0; place < 6; place++) {
            check.due("joined(" + place + ", 0)", x.joined(place, 0), due[place][0]);
            check.due("joined(" + place + ", 1)", x.joined(place, 1), due[place][1]);
        }
    }

    static void terms_3_SEARCH_aWayThatThe60001stTRIALWouldFindIsSPENT(Check check) {
        // the last one has to be turned further by one quarter: one trial more
        CutOnce x = longSearch(3);
        check.due("join()", x.join(), CutOnce.SPENT);
        check.due("trials()", x.trials(), 60000);
        check.due("joined(0, 0)", x.joined(0, 0), CutOnce.STATE);
    }

    static void terms_3_LOST_notInTHEHEAP_DOUBLE_moreThanOnce(Check check) {
        CutOnce x = State.picture(2, 1);
        check.due("none: missing(0)", x.missing(0), 2);
        check.due("none: missing(1)", x.missing(1), 0);
        x.lay(1, 0);
        check.due("once: missing(0)", x.missing(0), 1);
        check.due("once: missing(1)", x.missing(1), 0);
        x.lay(1, 2);
        check.due("twice: missing(0)", x.missing(0), 1);
        check.due("twice: missing(1)", x.missing(1), 1);
        x.lay(1, 0);
        check.due("three times: missing(1)", x.missing(1), 1);
    }

    // ---- 14 lay

    static void promise14_lay_answersHowManyThereAre(Check check) {
        CutOnce x = State.picture(5, 5);
        for (int n = 1; n <= 25; n++) {
            check.due("lay(" + (25 - n) + ", " + n % 4 + ")", x.lay(25 - n, n % 4), n);
            check.due("heaped(" + (n - 1) + ", 0)", x.heaped(n - 1, 0), 25 - n);
            check.due("heaped(" + (n - 1) + ", 1)", x.heaped(n - 1, 1), n % 4);
        }
    }

    static void promise14_lay_theLeastAndTheGreatestPIECE(Check check) {
        CutOnce x = State.picture(3, 2);
        check.due("lay(0, 0)", x.lay(0, 0), 1);
        check.due("lay(5, 0)", x.lay(5, 0), 2);
        check.due("lay(6, 0)", x.lay(6, 0), CutOnce.UNKNOWN);
        check.due("lay(-1, 0)", x.lay(-1, 0), CutOnce.UNKNOWN);
    }

    static void promise14_lay_UNKNOWN_noSuchPIECE(Check check) {
        for (int p : new int[] {LEAST, -1, 6, 7, 25, MOST}) {
            refused(check, "lay(" + p + ", 0)", x -> x.lay(p, 0), CutOnce.UNKNOWN);
        }
    }

    static void promise14_lay_OUTSIDE_turn(Check check) {
        for (int turn : new int[] {LEAST, -1, 4, 5, MOST}) {
            refused(check, "lay(0, " + turn + ")", x -> x.lay(0, turn), CutOnce.OUTSIDE);
        }
    }

    static void promise14_lay_FULL_25AreThere(Check check) {
        State.refused(check, State::fullHeap, "lay(0, 0)", x -> x.lay(0, 0), CutOnce.FULL, State.STAYS);
        State.refused(check, State::fullHeap, "lay(3, 3)", x -> x.lay(3, 3), CutOnce.FULL, State.STAYS);
    }

    static void promise14_lay_FULL_noMoreWhenOneIsTaken(Check check) {
        CutOnce x = State.fullHeap();
        x.take(7);
        check.due("lay(3, 1)", x.lay(3, 1), 25);
        check.due("lay(3, 1)", x.lay(3, 1), CutOnce.FULL);
    }

    static void promise14_lay_severalAtOnce_UNKNOWNAheadOfOUTSIDEAndFULL(Check check) {
        refused(check, "lay(6, 4)", x -> x.lay(6, 4), CutOnce.UNKNOWN);
        refused(check, "lay(-1, -1)", x -> x.lay(-1, -1), CutOnce.UNKNOWN);
        State.refused(check, State::fullHeap, "lay(4, 0)", x -> x.lay(4, 0), CutOnce.UNKNOWN, State.STAYS);
        State.refused(check, State::fullHeap, "lay(4, 4)", x -> x.lay(4, 4), CutOnce.UNKNOWN, State.STAYS);
    }

    static void promise14_lay_severalAtOnce_OUTSIDEAheadOfFULL(Check check) {
        State.refused(check, State::fullHeap, "lay(0, 4)", x -> x.lay(0, 4), CutOnce.OUTSIDE, State.STAYS);
        State.refused(check, State::fullHeap, "lay(0, -1)", x -> x.lay(0, -1), CutOnce.OUTSIDE, State.STAYS);
    }

    // ---- 15 heap

    static void promise15_heap_becomesAllPIECESHowMany(Check check) {
        for (int w = 1; w <= 5; w++) {
            for (int h = 1; h <= 5; h++) {
                CutOnce x = State.picture(w, h);
                check.due(w + " by " + h + ": heap(1)", x.heap(1), w * h);
                check.due("told(4)", x.told(4), w * h);
                check.due("missing(0)", x.missing(0), 0);
                check.due("missing(1)", x.missing(1), 0);
            }
        }
    }

    static void promise15_heap_whateverWasThereBefore(Check check) {
        CutOnce x = State.fullHeap();
        CutOnce other = State.picture(2, 2);
        check.due("heap(9) of a full one", x.heap(9), 4);
        other.heap(9);
        for (int i = 0; i < 4; i++) {
            check.due("heaped(" + i + ", 0)", x.heaped(i, 0), other.heaped(i, 0));
            check.due("heaped(" + i + ", 1)", x.heaped(i, 1), other.heaped(i, 1));
        }
        check.due("heaped(4, 0)", x.heaped(4, 0), CutOnce.UNKNOWN);
    }

    static void promise15_heap_ofOnePIECENoneChangesPlaceAndTheFirstDRAWIsItsTURN(Check check) {
        for (long number = 0; number < 8; number++) {
            CutOnce x = new CutOnce();
            check.due("heap by the number " + number, x.heap(Draws.seedFor(4096 * number)), 1);
            check.due("heaped(0, 0)", x.heaped(0, 0), 0);
            check.due("heaped(0, 1)", x.heaped(0, 1), number % 4);
        }
    }

    static void promise15_heap_theOneAtIAndTheOneAtTHENUMBERBelowIAnd1ChangePlaces(Check check) {
        // of two: the number below 2 is 0: they change places; it is 1: the last stays
        for (long number = 0; number < 4; number++) {
            CutOnce x = State.picture(2, 1);
            x.heap(Draws.seedFor(4096 * number));
            check.due("the number " + number + ": heaped(0, 0)", x.heaped(0, 0), number % 2 == 0 ? 1 : 0);
            check.due("the number " + number + ": heaped(1, 0)", x.heaped(1, 0), number % 2 == 0 ? 0 : 1);
        }
        // of three by the first draw alone: the last is the one that the number below 3 tells
        for (long number = 0; number < 6; number++) {
            CutOnce x = State.picture(1, 3);
            x.heap(Draws.seedFor(4096 * number));
            check.due("the number " + number + ": heaped(2, 0)", x.heaped(2, 0), number % 3);
        }
    }

    static void promise15_heap_fromTheLastDownTo1ThenTheTURNSInOrder(Check check) {
        for (long seed : new long[] {Long.MIN_VALUE, -1, 0, 1, Long.MAX_VALUE}) {
            CutOnce x = State.picture(5, 5);
            x.heap(seed);
            int[] due = new int[25];
            for (int p = 0; p < 25; p++) {
                due[p] = p;
            }
            BigInteger draw = BigInteger.valueOf(seed);
            for (int i = 24; i >= 1; i--) {
                draw = PlainCutOnce.nextDraw(draw);
                int j = PlainCutOnce.numberBelow(draw, i + 1);
                int p = due[i];
                due[i] = due[j];
                due[j] = p;
            }
            for (int i = 0; i < 25; i++) {
                draw = PlainCutOnce.nextDraw(draw);
                check.due("heap(" + seed + "): heaped(" + i + ", 0)", x.heaped(i, 0), due[i]);
                check.due("heap(" + seed + "): heaped(" + i + ", 1)", x.heaped(i, 1), PlainCutOnce.numberBelow(draw, 4));
            }
        }
    }

    static void promise15_heap_leavesThePICTUREAndSHEETSAndTRACE(Check check) {
        CutOnce x = State.full();
        x.heap(1);
        var got = State.reading(x);
        var want = State.reading(State.full());
        want.keySet().removeIf(call -> call.matches("(heaped|joined|told\\(4\\)).*"));
        got.keySet().retainAll(want.keySet());
        check.same("behind heap()", got, want);
    }

    // ---- 16 take

    private static void rest(Check check, CutOnce x, int[] pieces, int[] turns) {
        check.due("told(4)", x.told(4), pieces.length);
        for (int i = 0; i < pieces.length; i++) {
            check.due("heaped(" + i + ", 0)", x.heaped(i, 0), pieces[i]);
            check.due("heaped(" + i + ", 1)", x.heaped(i, 1), turns[i]);
        }
        check.due("heaped(" + pieces.length + ", 0)", x.heaped(pieces.length, 0), CutOnce.UNKNOWN);
    }

    private static CutOnce fourLaid() {
        CutOnce x = State.picture(2, 2);
        x.lay(3, 0);
        x.lay(1, 1);
        x.lay(2, 2);
        x.lay(0, 3);
        return x;
    }

    static void promise16_take_theFirst(Check check) {
        CutOnce x = fourLaid();
        check.due("take(0)", x.take(0), 3);
        rest(check, x, new int[] {1, 2, 0}, new int[] {1, 2, 3});
    }

    static void promise16_take_theLast(Check check) {
        CutOnce x = fourLaid();
        check.due("take(3)", x.take(3), 0);
        rest(check, x, new int[] {3, 1, 2}, new int[] {0, 1, 2});
    }

    static void promise16_take_thoseBehindItMoveUp(Check check) {
        CutOnce x = fourLaid();
        check.due("take(1)", x.take(1), 1);
        rest(check, x, new int[] {3, 2, 0}, new int[] {0, 2, 3});
    }

    static void promise16_take_ofAFullHEAPUntilItIsEmpty(Check check) {
        CutOnce x = State.fullHeap();
        for (int n = 25; n >= 1; n--) {
            check.due("take(" + n + ") of " + n, x.take(n), CutOnce.UNKNOWN);
            check.due("take(" + (n - 1) + ") of " + n, x.take(n - 1), (n - 1) % 4);
        }
        check.due("take(0) of none", x.take(0), CutOnce.UNKNOWN);
        check.due("told(4)", x.told(4), 0);
        x = State.fullHeap();
        check.due("take(0)", x.take(0), 0);
        for (int i = 0; i < 24; i++) {
            check.due("heaped(" + i + ", 0)", x.heaped(i, 0), (i + 1) % 4);
            check.due("heaped(" + i + ", 1)", x.heaped(i, 1), (i + 1) % 3);
        }
        check.due("heaped(24, 0)", x.heaped(24, 0), CutOnce.UNKNOWN);
    }

    static void promise16_take_UNKNOWN_noSuchPlace(Check check) {
        for (int i : new int[] {LEAST, -1, 7, 8, 25, MOST}) {
            refused(check, "take(" + i + ")", x -> x.take(i), CutOnce.UNKNOWN);
        }
        State.refused(check, State::fullHeap, "take(25)", x -> x.take(25), CutOnce.UNKNOWN, State.STAYS);
        State.refused(check, CutOnce::new, "take(0)", x -> x.take(0), CutOnce.UNKNOWN, State.STAYS);
    }

    // ---- 17 heaped

    static void promise17_heaped_0ThePIECE1ItsTURN(Check check) {
        rest(check, fourLaid(), new int[] {3, 1, 2, 0}, new int[] {0, 1, 2, 3});
        CutOnce x = State.fullHeap();
        check.due("heaped(24, 0)", x.heaped(24, 0), 0);
        check.due("heaped(23, 1)", x.heaped(23, 1), 2);
    }

    static void promise17_heaped_changesNothing(Check check) {
        State.untouched(check, "heaped(0, 0)", x -> x.heaped(0, 0));
        State.untouched(check, "heaped(6, 1)", x -> x.heaped(6, 1));
    }

    static void promise17_heaped_UNKNOWN_noSuchPlace(Check check) {
        for (int i : new int[] {LEAST, -1, 7, 8, 25, MOST}) {
            refused(check, "heaped(" + i + ", 0)", x -> x.heaped(i, 0), CutOnce.UNKNOWN);
            refused(check, "heaped(" + i + ", 1)", x -> x.heaped(i, 1), CutOnce.UNKNOWN);
        }
        State.refused(check, State::fullHeap, "heaped(25, 1)", x -> x.heaped(25, 1), CutOnce.UNKNOWN, State.STAYS);
    }

    static void promise17_heaped_OUTSIDE_what(Check check) {
        for (int what : NO_WHAT) {
            refused(check, "heaped(0, " + what + ")", x -> x.heaped(0, what), CutOnce.OUTSIDE);
        }
    }

    static void promise17_heaped_severalAtOnce_UNKNOWNAheadOfOUTSIDE(Check check) {
        for (int what : NO_WHAT) {
            refused(check, "heaped(-1, " + what + ")", x -> x.heaped(-1, what), CutOnce.UNKNOWN);
            refused(check, "heaped(7, " + what + ")", x -> x.heaped(7, what), CutOnce.UNKNOWN);
        }
    }

    // ---- 18 missing

    static void promise18_missing_allAndNone(Check check) {
        CutOnce x = State.picture(5, 5);
        check.due("an empty heap: missing(0)", x.missing(0), 25);
        check.due("an empty heap: missing(1)", x.missing(1), 0);
        x.heap(4);
        check.due("all: missing(0)", x.missing(0), 0);
        check.due("all: missing(1)", x.missing(1), 0);
        x.take(24);
        check.due("all but one: missing(0)", x.missing(0), 1);
    }

    static void promise18_missing_asManyDOUBLEAsThereCanBe(Check check) {
        CutOnce x = State.picture(4, 3);
        for (int i = 0; i < 25; i++) {
            x.lay(i % 12, 0);
        }
        check.due("missing(0)", x.missing(0), 0);
        check.due("missing(1)", x.missing(1), 12);
        x = State.picture(5, 5);
        for (int i = 0; i < 25; i++) {
            x.lay(24, 0);
        }
        check.due("one 25 times: missing(0)", x.missing(0), 24);
        check.due("one 25 times: missing(1)", x.missing(1), 1);
    }

    static void promise18_missing_changesNothing(Check check) {
        State.untouched(check, "missing(0)", x -> x.missing(0));
        State.untouched(check, "missing(1)", x -> x.missing(1));
    }

    static void promise18_missing_OUTSIDE_what(Check check) {
        for (int what : NO_WHAT) {
            refused(check, "missing(" + what + ")", x -> x.missing(what), CutOnce.OUTSIDE);
        }
    }

    // ---- 19 missed

    static void promise19_missed_byNumberFromTheFirstToTheLast(Check check) {
        CutOnce x = State.picture(5, 5);
        for (int i = 0; i < 25; i++) {
            check.due("all are lost: missed(0, " + i + ")", x.missed(0, i), i);
        }
        check.due("missed(0, 25)", x.missed(0, 25), CutOnce.UNKNOWN);
        State.lay(x, 24, 7, 24, 0, 7, 7, 3, 0);
        int[] doubles = {0, 7, 24};
        for (int i = 0; i < 3; i++) {
            check.due("missed(1, " + i + ")", x.missed(1, i), doubles[i]);
        }
        check.due("missed(1, 3)", x.missed(1, 3), CutOnce.UNKNOWN);
        check.due("missed(0, 0)", x.missed(0, 0), 1);
        check.due("missed(0, 2)", x.missed(0, 2), 4);
        check.due("missed(0, 20)", x.missed(0, 20), 23);
        check.due("missed(0, 21)", x.missed(0, 21), CutOnce.UNKNOWN);
    }

    static void promise19_missed_changesNothing(Check check) {
        State.untouched(check, "missed(1, 0)", x -> x.missed(1, 0));
    }

    static void promise19_missed_UNKNOWN_noSuchPlace(Check check) {
        for (int i : new int[] {LEAST, -2, -1, 0, 1, MOST}) {
            refused(check, "none is lost: missed(0, " + i + ")", x -> x.missed(0, i), CutOnce.UNKNOWN);
        }
        for (int i : new int[] {LEAST, -1, 1, 2, 25, MOST}) {
            refused(check, "4 is double: missed(1, " + i + ")", x -> x.missed(1, i), CutOnce.UNKNOWN);
        }
        check.due("4 is double: missed(1, 0)", State.full().missed(1, 0), 4);
    }

    static void promise19_missed_OUTSIDE_what(Check check) {
        for (int what : NO_WHAT) {
            for (int i : new int[] {0, 1, 6, 25, MOST}) {
                // with another `what` no row is asked for, in which a place from 0 on could be missing
                refused(check, "missed(" + what + ", " + i + ")", x -> x.missed(what, i), CutOnce.OUTSIDE);
            }
        }
    }

    static void promise19_missed_severalAtOnce_UNKNOWNOfAPlaceBelow0AheadOfOUTSIDE(Check check) {
        for (int what : NO_WHAT) {
            for (int i : new int[] {LEAST, -2, -1}) {
                refused(check, "missed(" + what + ", " + i + ")", x -> x.missed(what, i), CutOnce.UNKNOWN);
            }
        }
    }

    // ---- 20 ways

    static void promise20_ways_0WithAnEmptyHEAPOrOneThatIsTooSmall(Check check) {
        CutOnce x = State.picture(2, 1);
        check.due("none: ways()", x.ways(), 0);
        x.lay(0, 0);
        check.due("one: ways()", x.ways(), 0);
        x.lay(1, 0);
        check.due("both: ways()", x.ways(), 2);
    }

    static void promise20_ways_ofTheLeastAndTheGreatestPICTURE(Check check) {
        CutOnce x = new CutOnce();
        x.heap(1);
        check.due("1 by 1: ways()", x.ways(), 4);
        x = State.made(5, 5, 42);
        x.heap(43);
        check.due("5 by 5: ways()", x.ways(), 4);
        x = State.made(5, 4, 42);
        x.heap(43);
        check.due("5 by 4: ways()", x.ways(), 2);
        x = State.made(4, 5, 42);
        x.heap(43);
        check.due("4 by 5: ways()", x.ways(), 2);
    }

    /** Without the trials, which the document names. */
    private static void searchSpent(Check check, State.Maker maker, String name, State.Call call) {
        CutOnce x = maker.made();
        CutOnce twin = maker.made();
        x.put(3, 0, 0);
        twin.put(3, 0, 0);
        check.due(name, call.on(x), CutOnce.SPENT);
        var got = State.reading(x);
        var want = State.reading(twin);
        want.put("trials()", 60000L);
        check.same("behind " + name, got, want);
    }

    static void promise20_ways_SPENT_changesNothingButTRIALS(Check check) {
        // the way that a join() found stays
        searchSpent(check, State::fullHeap, "ways()", x -> x.ways());
        CutOnce x = State.fullHeap();
        check.due("joined(3, 0)", x.joined(3, 0), 3);
        x.ways();
        check.due("joined(3, 0) behind ways()", x.joined(3, 0), 3);
    }

    static void promise20_ways_thatAreNotSPENTChangeNothingButTRIALS(Check check) {
        CutOnce x = State.full();
        check.due("ways()", x.ways(), 4);
        var got = State.reading(x);
        var want = State.reading(State.full());
        got.remove("trials()");
        want.remove("trials()");
        check.same("behind ways()", got, want);
    }

    static void promise20_ways_SPENTIsNotKept(Check check) {
        CutOnce x = State.fullHeap();
        check.due("ways()", x.ways(), CutOnce.SPENT);
        x.heap(1);
        check.due("ways() of four", x.ways(), 24);
        check.due("ways() again", x.ways(), 24);
    }

    // ---- 21 join

    static void promise21_join_1TheFirstWAY(Check check) {
        CutOnce x = State.made(5, 5, 42);
        x.heap(43);
        check.due("5 by 5: join()", x.join(), 1);
        check.due("join() again", x.join(), 1);
        x = new CutOnce();
        x.lay(0, 2);
        check.due("1 by 1: join()", x.join(), 1);
    }

    /** Which EDGE of its PIECE shows in a direction at a place of the frame, by the way that join() found. */
    private static int edgeShown(CutOnce x, int place, int direction) {
        return Math.floorMod(direction - x.heaped(x.joined(place, 0), 1) - x.joined(place, 1), 4);
    }

    static void promise21_join_itsWAYFitsInEachPICTURE(Check check) {
        for (int w = 1; w <= 5; w++) {
            for (int h = 1; h <= 5; h++) {
                CutOnce x = State.made(w, h, 10 * w + h);
                x.heap(w + 10 * h);
                String frame = w + " by " + h + ": ";
                check.due(frame + "join()", x.join(), 1);
                for (int place = 0; place < w * h; place++) {
                    int p = x.heaped(x.joined(place, 0), 0);
                    int right = edgeShown(x, place, 1);
                    int below = edgeShown(x, place, 2);
                    if (place % w == w - 1) {
                        check.due(frame + "FLAT to the right of " + place, x.sideOf(p, right), CutOnce.NONE);
                    } else {
                        int q = x.heaped(x.joined(place + 1, 0), 0);
                        check.due(frame + "FIT to the right of " + place, x.far(p, right, q, edgeShown(x, place + 1, 3)), 0);
                    }
                    if (place + w >= w * h) {
                        check.due(frame + "FLAT below " + place, x.sideOf(p, below), CutOnce.NONE);
                    } else {
                        int q = x.heaped(x.joined(place + w, 0), 0);
                        check.due(frame + "FIT below " + place, x.far(p, below, q, edgeShown(x, place + w, 0)), 0);
                    }
                }
            }
        }
    }

    static void promise21_join_0ThereIsNone(Check check) {
        check.due("an empty heap", new CutOnce().join(), 0);
        CutOnce x = State.picture(2, 1);
        State.bend(x, 0, 1, 0, 0, 0, 0);
        x.lay(0, 0);
        check.due("one for two places", x.join(), 0);
        x.lay(0, 0);
        check.due("two that do not fit", x.join(), 0);
        x.lay(1, 0);
        check.due("one that fits, too", x.join(), 1);
    }

    /** 5 by 1: ends, one beside an end, and many of the middle, but none that could end the row. */
    private static CutOnce endless() {
        CutOnce x = State.picture(5, 1);
        x.bend(0, 0, 1);
        State.lay(x, 0, 0, 0, 0, 1);
        for (int i = 0; i < 20; i++) {
            x.lay(2, 0);
        }
        return x;
    }

    static void promise21_join_SPENT_changesNothingButTRIALS(Check check) {
        searchSpent(check, BoundsHeapTest::endless, "join()", x -> x.join());
        CutOnce x = endless();
        x.join();
        check.due("joined(0, 0)", x.joined(0, 0), CutOnce.STATE);
        check.due("trials()", x.trials(), 60000);
    }

    static void promise21_join_changesNothingButTheWAYAndTRIALS(Check check) {
        CutOnce x = State.full();
        CutOnce twin = State.full();
        x.ways();
        check.due("join()", x.join(), 1);
        check.same("behind join() again", State.reading(x), State.reading(twin));
    }

    // ---- 22 joined

    static void promise22_joined_0THEHEAPsPlace1TheTurnFurther(Check check) {
        CutOnce x = State.full();
        boolean[] used = new boolean[7];
        for (int place = 0; place < 6; place++) {
            int from = x.joined(place, 0);
            int turn = x.joined(place, 1);
            check.holds("a place of the heap: " + from, from >= 0 && from < 7 && !used[from]);
            check.holds("a turn: " + turn, turn >= 0 && turn < 4);
            used[from] = true;
        }
        x = State.fullHeap();
        for (int place = 0; place < 4; place++) {
            check.due("joined(" + place + ", 0)", x.joined(place, 0), place);
        }
    }

    static void promise22_joined_STATE_aheadOfAnyJoin(Check check) {
        CutOnce x = new CutOnce();
        check.due("joined(0, 0)", x.joined(0, 0), CutOnce.STATE);
        x.lay(0, 0);
        check.due("behind lay(): joined(0, 0)", x.joined(0, 0), CutOnce.STATE);
        x.ways();
        check.due("behind ways(): joined(0, 0)", x.joined(0, 0), CutOnce.STATE);
    }

    static void promise22_joined_STATE_behindAJoinThatTold0(Check check) {
        CutOnce x = State.full();
        x.take(0);
        x.take(0);
        check.due("join()", x.join(), 0);
        check.due("joined(0, 0)", x.joined(0, 0), CutOnce.STATE);
    }

    private static void goneBehind(Check check, String name, Consumer<CutOnce> call) {
        CutOnce x = State.full();
        x.sheet(0, 0, 5);
        check.holds("there is a way ahead of " + name, x.joined(0, 0) >= 0 && x.joined(5, 1) >= 0);
        call.accept(x);
        for (int place = 0; place < 6; place++) {
            for (int what = 0; what < 2; what++) {
                check.due("joined(" + place + ", " + what + ") behind " + name, x.joined(place, what), CutOnce.STATE);
            }
        }
    }

    static void promise22_joined_STATE_behindPicture(Check check) {
        goneBehind(check, "picture(3, 2)", x -> x.picture(3, 2));
        goneBehind(check, "picture(5, 5)", x -> x.picture(5, 5));
    }

    static void promise22_joined_STATE_behindMake(Check check) {
        goneBehind(check, "make(0)", x -> x.make(0));
        CutOnce x = new CutOnce();
        x.lay(0, 0);
        x.join();
        x.make(1);
        check.due("make() without sides", x.joined(0, 0), CutOnce.STATE);
    }

    static void promise22_joined_STATE_behindBendAlsoToWhatItWas(Check check) {
        goneBehind(check, "bend(0, 0, 4)", x -> x.bend(0, 0, 4));
        goneBehind(check, "bend(6, 4, 0)", x -> x.bend(6, 4, 0));
    }

    static void promise22_joined_STATE_behindShapeAlsoOfNone(Check check) {
        goneBehind(check, "shape(0, 0, 0, 1, 6)", x -> x.shape(0, 0, 0, 1, 6));
        goneBehind(check, "shape(0, 0, 5, 0, 0)", x -> x.shape(0, 0, 5, 0, 0));
    }

    static void promise22_joined_STATE_behindAlikeAlsoIfNoneBecameAnother(Check check) {
        goneBehind(check, "alike(0, 1, 0)", x -> x.alike(0, 1, 0));
        goneBehind(check, "alike(2, 3, 1)", x -> x.alike(2, 3, 1));
    }

    static void promise22_joined_STATE_behindLay(Check check) {
        goneBehind(check, "lay(0, 0)", x -> x.lay(0, 0));
    }

    static void promise22_joined_STATE_behindHeap(Check check) {
        goneBehind(check, "heap(8)", x -> x.heap(8));
    }

    static void promise22_joined_STATE_behindTakeAlsoOfOneThatDoesNotLieThere(Check check) {
        goneBehind(check, "take(0)", x -> x.take(0));
        CutOnce x = State.fullHeap();
        x.take(24);
        check.due("take(24) of a full one", x.joined(0, 0), CutOnce.STATE);
    }

    static void promise22_joined_staysBehindAllOtherCalls(Check check) {
        CutOnce x = State.full();
        var want = State.reading(State.full());
        x.height(0, 0);
        x.sideOf(0, 0);
        x.edge(0, 1, 0);
        x.far(0, 1, 1, 3);
        x.kind(0);
        x.unlike();
        x.traps(9);
        x.heaped(0, 0);
        x.missing(0);
        x.missed(0, 0);
        x.ways();
        x.trials();
        x.known(0);
        x.sheet(3, 0, 9);
        x.put(3, 0, 1);
        x.cell(3, 0, 0);
        x.copy(3, 0, 3, 1, 1);
        x.lose(3);
        x.tell(0);
        x.mark(0);
        x.as(0, 0);
        x.trace();
        x.fault();
        x.told(0);
        // a fault is no call that is not refused: it changes nothing
        check.due("shape(3, 0, 0, 1, 0)", x.shape(3, 0, 0, 1, 0), -11);
        var got = State.reading(x);
        want.keySet().removeIf(call -> !call.startsWith("joined"));
        got.keySet().retainAll(want.keySet());
        check.same("behind them", got, want);
        check.due("joined(0, 0) is none of them", x.joined(0, 0) >= 0 ? 1 : 0, 1);
    }

    static void promise22_joined_theLastPlaceOfTheGreatestFrame(Check check) {
        CutOnce x = State.made(5, 5, 42);
        x.heap(43);
        x.join();
        boolean[] used = new boolean[25];
        for (int place = 0; place < 25; place++) {
            int from = x.joined(place, 0);
            check.holds("joined(" + place + ", 0) is a place of its own: " + from, from >= 0 && from < 25 && !used[from]);
            used[from] = true;
        }
        check.due("joined(25, 0)", x.joined(25, 0), CutOnce.UNKNOWN);
        check.due("joined(25, 1)", x.joined(25, 1), CutOnce.UNKNOWN);
    }

    static void promise22_joined_changesNothing(Check check) {
        State.untouched(check, "joined(0, 0)", x -> x.joined(0, 0));
        State.untouched(check, "joined(5, 1)", x -> x.joined(5, 1));
    }

    static void promise22_joined_UNKNOWN_noSuchPlaceOfTheFrame(Check check) {
        for (int place : new int[] {LEAST, -1, 6, 7, 25, MOST}) {
            refused(check, "joined(" + place + ", 0)", x -> x.joined(place, 0), CutOnce.UNKNOWN);
            refused(check, "joined(" + place + ", 1)", x -> x.joined(place, 1), CutOnce.UNKNOWN);
        }
        // the heap has more places than the frame
        State.refused(check, State::fullHeap, "joined(4, 0)", x -> x.joined(4, 0), CutOnce.UNKNOWN, State.STAYS);
    }

    static void promise22_joined_OUTSIDE_what(Check check) {
        for (int what : NO_WHAT) {
            refused(check, "joined(0, " + what + ")", x -> x.joined(0, what), CutOnce.OUTSIDE);
            refused(check, "joined(5, " + what + ")", x -> x.joined(5, what), CutOnce.OUTSIDE);
        }
    }

    static void promise22_joined_severalAtOnce_STATEAheadOfUNKNOWNAndOUTSIDE(Check check) {
        for (int[] placeAndWhat : new int[][] {{-1, 0}, {1, 0}, {0, 2}, {0, -1}, {25, 2}, {LEAST, LEAST}}) {
            int place = placeAndWhat[0];
            int what = placeAndWhat[1];
            String call = "joined(" + place + ", " + what + ")";
            State.refused(check, CutOnce::new, call, x -> x.joined(place, what), CutOnce.STATE, State.STAYS);
        }
    }

    static void promise22_joined_severalAtOnce_UNKNOWNAheadOfOUTSIDE(Check check) {
        for (int what : NO_WHAT) {
            refused(check, "joined(-1, " + what + ")", x -> x.joined(-1, what), CutOnce.UNKNOWN);
            refused(check, "joined(6, " + what + ")", x -> x.joined(6, what), CutOnce.UNKNOWN);
        }
    }

    // ---- 23 trials

    static void promise23_trials_0AheadOfAny(Check check) {
        CutOnce x = State.picture(5, 5);
        x.heap(1);
        x.missing(0);
        check.due("trials()", x.trials(), 0);
    }

    static void promise23_trials_ofTheLatestSEARCH(Check check) {
        CutOnce x = State.picture(2, 2);
        x.heap(1);
        State.lay(x, 0, 1);
        x.ways();
        check.due("of ways(): trials()", x.trials(), 24 + 6 * 20 + 30 * 16 + 120 * 12);
        x.join();
        check.holds("of join(): trials() are fewer", x.trials() >= 4 && x.trials() <= 16);
        x.ways();
        check.due("of ways() again: trials()", x.trials(), 24 + 6 * 20 + 30 * 16 + 120 * 12);
        x.take(0);
        x.take(0);
        x.take(0);
        x.join();
        check.due("of a join() that told 0: trials()", x.trials(), 12 + 3 * 8 + 6 * 4);
        x.picture(1, 1);
        x.ways();
        check.due("of an empty heap: trials()", x.trials(), 0);
    }

    static void promise23_trials_60000IfItWasSPENT(Check check) {
        CutOnce x = State.fullHeap();
        x.ways();
        check.due("trials()", x.trials(), 60000);
        x.join();
        // the first four lie there, with 0, 3, 2 and 0 quarters further
        check.due("behind a join(): trials()", x.trials(), 1 + 4 + 3 + 1);
        x.ways();
        check.due("behind ways() again: trials()", x.trials(), 60000);
    }

    static void promise23_trials_changesNothing(Check check) {
        State.untouched(check, "trials()", x -> x.trials());
    }

    static void promise23_trials_stayBehindAllButASEARCH(Check check) {
        CutOnce x = new CutOnce();
        x.lay(0, 0);
        x.ways();
        x.picture(3, 2);
        x.make(1);
        x.heap(1);
        x.take(0);
        x.lay(0, 0);
        check.due("trials()", x.trials(), 4);
    }

    // ---- 24 known

    static void promise24_known_noneNextToItIsInTHEHEAP(Check check) {
        CutOnce x = State.picture(3, 3);
        for (int p = 0; p < 9; p++) {
            check.due("an empty heap: known(" + p + ")", x.known(p), 0);
        }
        // corners are not next to the middle
        State.lay(x, 0, 2, 6, 8);
        check.due("corners alone: known(4)", x.known(4), 0);
        check.due("1 by 1: known(0)", new CutOnce().known(0), 0);
    }

    static void promise24_known_fiveForEachUpToAllAround(Check check) {
        CutOnce x = State.picture(3, 3);
        int[] around = {1, 5, 7, 3};
        for (int i = 0; i < 4; i++) {
            check.due(i + " around: known(4)", x.known(4), 5 * i);
            x.lay(around[i], i);
        }
        check.due("all around: known(4)", x.known(4), 20);
    }

    static void promise24_known_eachEdgeByItself(Check check) {
        for (int p : new int[] {1, 5, 7, 3}) {
            CutOnce x = State.picture(3, 3);
            x.lay(p, 2);
            check.due(p + " alone: known(4)", x.known(4), 5);
        }
    }

    static void promise24_known_aDOUBLENextToItCountsOnce(Check check) {
        CutOnce x = State.picture(3, 3);
        State.lay(x, 1, 1, 1);
        check.due("known(4)", x.known(4), 5);
        check.due("known(0)", x.known(0), 5);
    }

    static void promise24_known_noneBeyondAPICTUREsBorder(Check check) {
        // 2 and 3 lie in a row of numbers, but not next to one another
        CutOnce x = State.picture(3, 3);
        x.lay(2, 0);
        check.due("known(3)", x.known(3), 0);
        x = State.picture(3, 3);
        x.lay(3, 0);
        check.due("known(2)", x.known(2), 0);
        x = State.picture(5, 5);
        State.lay(x, 1, 5, 19, 23);
        check.due("known(0)", x.known(0), 10);
        check.due("known(24)", x.known(24), 10);
        check.due("known(4)", x.known(4), 0);
        check.due("known(20)", x.known(20), 0);
    }

    static void promise24_known_changesNothing(Check check) {
        CutOnce x = State.full();
        x.take(0);
        x.take(0);
        CutOnce twin = State.full();
        twin.take(0);
        twin.take(0);
        int lost = x.missed(0, 0);
        check.holds("known(" + lost + ") is told", x.known(lost) >= 0);
        check.same("behind known(" + lost + ")", State.reading(x), State.reading(twin));
    }

    static void promise24_known_UNKNOWN_noSuchPIECE(Check check) {
        for (int p : new int[] {LEAST, -1, 6, 7, 25, MOST}) {
            refused(check, "known(" + p + ")", x -> x.known(p), CutOnce.UNKNOWN);
        }
        State.refused(check, CutOnce::new, "known(1)", x -> x.known(1), CutOnce.UNKNOWN, State.STAYS);
    }

    static void promise24_known_STATE_itIsNotLOST(Check check) {
        for (int p = 0; p < 6; p++) {
            int piece = p;
            refused(check, "known(" + p + ")", x -> x.known(piece), CutOnce.STATE);
        }
    }
}
