import java.math.BigInteger;

/** 'What it is', 'Terms' ahead of its parts, TELLING, and promises 30 to 35: a test of its own for each sentence that names a bound, an edge or a refusal. */
public final class BoundsPartsTest {
    private static final int MOST = State.MOST;
    private static final int LEAST = State.LEAST;
    private static final long LOST = CutOnce.LOST;
    private static final int[] NO_SIDE = {LEAST, -1, 7, 8, 40, MOST};

    public static void main(String[] args) {
        Sentences.holdAll(BoundsPartsTest.class);
    }

    // ---- What it is

    static void whatItIs_512CallsOfTheDearestSEARCH(Check check) {
        CutOnce x = State.picture(2, 2);
        for (int i = 0; i < 25; i++) {
            x.lay(i % 4, 0);
        }
        for (int call = 27; call < 512; call++) {
            check.due("ways(), call " + call, x.ways(), CutOnce.SPENT);
        }
        check.due("trials(), the 512th call", x.trials(), 60000);
    }

    static void whatItIs_512CallsOfTheDearestOfPairs(Check check) {
        CutOnce x = State.made(5, 5, 1);
        for (int call = 3; call <= 511; call++) {
            check.due("traps(90), call " + call, x.traps(90), 3026);
        }
        check.due("unlike(), the 512th call", x.unlike(), State.made(5, 5, 1).unlike());
    }

    static void whatItIs_512CallsThatMakeRowsAnew(Check check) {
        CutOnce x = new CutOnce();
        for (int call = 1; call <= 510; call++) {
            check.due("sheet(1, 2, 50), call " + call, x.sheet(1, 2, 50), 1);
        }
        check.due("put(1, 49, 3)", x.put(1, 49, 3), 1);
        check.due("cell(1, 49, 2), the 512th call", x.cell(1, 49, 2), 3);
        x = new CutOnce();
        for (int call = 1; call <= 511; call++) {
            check.due("picture(5, 5), call " + call, x.picture(5, 5), 40);
        }
        check.due("heap(1), the 512th call", x.heap(1), 25);
    }

    static void whatItIs_512CallsOfTHEHEAP(Check check) {
        CutOnce x = State.picture(5, 5);
        for (int call = 2; call <= 511; call += 2) {
            check.due("lay(24, 3), call " + call, x.lay(24, 3), 1);
            check.due("take(0), call " + (call + 1), x.take(0), 24);
        }
        check.due("told(4), the 512th call", x.told(4), 0);
    }

    // ---- Terms, ahead of the parts

    static void terms_0_REFUSALS_theirNumbers(Check check) {
        check.due("UNKNOWN", CutOnce.UNKNOWN, -1);
        check.due("OUTSIDE", CutOnce.OUTSIDE, -2);
        check.due("STATE", CutOnce.STATE, -3);
        check.due("FULL", CutOnce.FULL, -4);
        check.due("SPENT", CutOnce.SPENT, -6);
    }

    static void terms_0_NONE_isMinus9(Check check) {
        check.due("NONE", CutOnce.NONE, -9);
        check.due("sideOf(0, 0)", new CutOnce().sideOf(0, 0), -9);
    }

    static void terms_0_LOST_whereALongIsAnswered(Check check) {
        check.due("LOST", LOST, -9223372036854775807L - 1);
        CutOnce x = State.full();
        check.due("bend(7, 0, 0)", x.bend(7, 0, 0), LOST);
        check.due("height(0, 5)", x.height(0, 5), LOST);
        check.due("edge(0, 0, 0)", x.edge(0, 0, 0), LOST);
        check.due("cell(4, 0, 0)", x.cell(4, 0, 0), LOST);
        check.due("cell(0, 0, 1)", x.cell(0, 0, 1), LOST);
    }

    static void terms_0_REFUSALS_changeNothingButFaultOfACallThatNamesFAULTS(Check check) {
        State.refused(check, State::full, "shape(4, 0, 0, 0, 0)", x -> x.shape(4, 0, 0, 0, 0), -1, 0);
        State.refused(check, State::full, "sheet(4, 0, 0)", x -> x.sheet(4, 0, 0), -1, 0);
        State.refused(check, State::full, "put(4, 0, 0)", x -> x.put(4, 0, 0), -1, 0);
        State.refused(check, State::full, "cell(4, 0, 0)", x -> x.cell(4, 0, 0), LOST, 0);
        State.refused(check, State::full, "copy(4, 0, 0, 0, 0)", x -> x.copy(4, 0, 0, 0, 0), -1, 0);
        State.refused(check, State::full, "as(7, 0)", x -> x.as(7, 0), -1, 0);
        State.refused(check, State::full, "lose(4)", x -> x.lose(4), -1, State.STAYS);
        State.refused(check, State::full, "tell(7)", x -> x.tell(7), -1, State.STAYS);
        State.refused(check, State::full, "told(5)", x -> x.told(5), -2, State.STAYS);
    }

    static void terms_0_FAULTS_minus10LessIt(Check check) {
        State.refused(check, State::full, "NULL: put(3, 0, 0)", x -> x.put(3, 0, 0), -11, 1);
        State.refused(check, State::full, "CAST: as(0, 1)", x -> x.as(0, 1), -12, 2);
        State.refused(check, State::full, "INDEX: put(0, 6, 0)", x -> x.put(0, 6, 0), -13, 3);
        State.refused(check, State::full, "SIZE: sheet(0, 0, -1)", x -> x.sheet(0, 0, -1), -14, 4);
    }

    static void terms_0_FAULTS_LOSTWhereALongIsAnswered(Check check) {
        State.refused(check, State::full, "NULL: cell(3, 0, 0)", x -> x.cell(3, 0, 0), LOST, 1);
        State.refused(check, State::full, "CAST: cell(0, 0, 1)", x -> x.cell(0, 0, 1), LOST, 2);
        State.refused(check, State::full, "INDEX: cell(0, 6, 0)", x -> x.cell(0, 6, 0), LOST, 3);
    }

    static void terms_0_quotientsAreCut(Check check) {
        // THE NUMBER of a draw of 4095 is 0 by 4096, of 8191 it is 1
        check.due("of 4095: height(0, 0)", State.made(2, 1, Draws.seedFor(4095)).height(0, 0), -9);
        check.due("of 8191: height(0, 0)", State.made(2, 1, Draws.seedFor(8191)).height(0, 0), -8);
    }

    // ---- Terms 4, TELLING

    /** Side 0 a SIDE, 1 a BULGE, 2 and 3 TRAPS; a new object's TRACE is 0. */
    private static CutOnce kinds() {
        CutOnce x = State.picture(2, 2);
        State.bend(x, 0, 5, -3, 0, 0, 0);
        State.bend(x, 1, 1, 1, 1, 1, 2);
        State.bend(x, 2, 9, 9, 9, 9, 8);
        State.bend(x, 3, -8, -9, -9, -9, -9);
        return x;
    }

    static void terms_4_TRACE_0AtFirst(Check check) {
        check.due("trace()", new CutOnce().trace(), 0);
        check.due("trace()", kinds().trace(), 0);
    }

    static void terms_4_TRACE_becomes31TimesItAndTheNumber(Check check) {
        CutOnce x = kinds();
        x.mark(0);
        check.due("4: trace()", x.trace(), 4);
        x.mark(2);
        check.due("4 5: trace()", x.trace(), 4 * 31 + 5);
        x.tell(0);
        check.due("4 5 1: trace()", x.trace(), (4 * 31 + 5) * 31 + 1);
    }

    static void terms_4_TRACE_anIntThatWraps(Check check) {
        CutOnce x = kinds();
        BigInteger trace = BigInteger.ZERO;
        boolean below0 = false;
        for (int i = 0; i < 200; i++) {
            x.mark(i % 4);
            trace = trace.multiply(BigInteger.valueOf(31)).add(BigInteger.valueOf(i % 4 < 2 ? 4 : 5));
            check.due("behind " + (i + 1) + " marks: trace()", x.trace(), trace.intValue());
            below0 |= trace.intValue() < 0;
        }
        check.holds("it was below 0 once", below0);
        // six make 118333824, seven 3668348548: that goes round
        x = kinds();
        for (int i = 0; i < 6; i++) {
            x.mark(0);
        }
        check.due("six of 4: trace()", x.trace(), 118333824);
        x.mark(0);
        check.due("seven of 4: trace()", x.trace(), 118333824 * 31L + 4 - 4294967296L);
    }

    static void terms_4_TELLING_SIDE1TheSumOfItsHeights(Check check) {
        CutOnce x = kinds();
        check.due("tell(0)", x.tell(0), 2);
        check.due("trace()", x.trace(), 1);
    }

    static void terms_4_TELLING_BULGE2WhatSIDEsGivesAnd100(Check check) {
        CutOnce x = kinds();
        check.due("tell(1)", x.tell(1), 106);
        check.due("trace()", x.trace(), 2 * 31 + 1);
    }

    static void terms_4_TELLING_TRAP3WhatSIDEsGivesTheOneOfBULGELeftOutItsContrary(Check check) {
        CutOnce x = kinds();
        check.due("tell(2)", x.tell(2), -44);
        check.due("trace()", x.trace(), 3 * 31 + 1);
        check.due("tell(3)", x.tell(3), 44);
        check.due("trace()", x.trace(), ((3 * 31 + 1) * 31 + 3) * 31 + 1);
    }

    static void terms_4_MARKED_byALentBody4TheNumberOfThatSIDE(Check check) {
        CutOnce x = kinds();
        check.due("mark(0)", x.mark(0), 0);
        check.due("a BULGE has the lent one: mark(1)", x.mark(1), 1);
        check.due("trace()", x.trace(), 4 * 31 + 4);
    }

    static void terms_4_MARKED_TRAPSHaveTheirOwn5(Check check) {
        CutOnce x = kinds();
        check.due("mark(2)", x.mark(2), 99);
        check.due("mark(3)", x.mark(3), 99);
        check.due("trace()", x.trace(), 5 * 31 + 5);
    }

    // ---- 30 tell

    static void promise30_tell_leastAndGreatestSums(Check check) {
        CutOnce x = State.picture(2, 1);
        check.due("all 0: tell(0)", x.tell(0), 0);
        State.bend(x, 0, 9, 9, 9, 9, 9);
        check.due("a BULGE of 9: tell(0)", x.tell(0), 145);
        State.bend(x, 0, -9, -9, -9, -9, -9);
        check.due("a BULGE of -9: tell(0)", x.tell(0), 55);
        State.bend(x, 0, 9, 9, 9, 9, 0);
        check.due("a SIDE of 9 and a 0: tell(0)", x.tell(0), 36);
        State.bend(x, 0, -9, -9, 0, -9, -9);
        check.due("a SIDE of -9 and a 0: tell(0)", x.tell(0), -36);
    }

    static void promise30_tell_leastAndGreatestOfTRAPS(Check check) {
        CutOnce x = State.picture(1, 3);
        State.bend(x, 0, 9, 9, 9, 9, 9);
        State.bend(x, 1, -9, -9, -9, -9, -9);
        check.due("tell(0)", x.tell(0), -45);
        check.due("tell(1)", x.tell(1), 45);
    }

    static void promise30_tell_byTheKindThatItIsNow(Check check) {
        CutOnce x = kinds();
        x.bend(3, 0, -9);
        check.due("no TRAP any more: tell(2)", x.tell(2), 144);
        check.due("no TRAP any more: tell(3)", x.tell(3), 55);
        x.bend(2, 0, 0);
        check.due("no BULGE any more: tell(2)", x.tell(2), 35);
    }

    static void promise30_tell_theLastSIDEOfTheGreatestPICTURE(Check check) {
        CutOnce x = State.picture(5, 5);
        x.bend(39, 4, 6);
        check.due("tell(39)", x.tell(39), 6);
        check.due("tell(40)", x.tell(40), CutOnce.UNKNOWN);
    }

    static void promise30_tell_changesNothingButTRACE(Check check) {
        for (int side = 0; side < 7; side++) {
            CutOnce x = State.full();
            x.tell(side);
            var got = State.reading(x);
            var want = State.reading(State.full());
            got.remove("trace()");
            want.remove("trace()");
            check.same("behind tell(" + side + ")", got, want);
        }
    }

    static void promise30_tell_UNKNOWN_leavesNoNumberInTRACE(Check check) {
        for (int side : NO_SIDE) {
            State.refused(check, State::full, "tell(" + side + ")", x -> x.tell(side), CutOnce.UNKNOWN, State.STAYS);
        }
        State.refused(check, CutOnce::new, "tell(0)", x -> x.tell(0), CutOnce.UNKNOWN, State.STAYS);
    }

    // ---- 31 mark

    static void promise31_mark_theFirstAndTheLastSIDE(Check check) {
        CutOnce x = State.picture(5, 5);
        check.due("mark(0)", x.mark(0), 0);
        check.due("mark(39)", x.mark(39), 39);
        check.due("mark(40)", x.mark(40), CutOnce.UNKNOWN);
    }

    static void promise31_mark_byTheKindThatItIsNow(Check check) {
        CutOnce x = kinds();
        check.due("mark(2)", x.mark(2), 99);
        x.bend(3, 0, -9);
        check.due("no TRAP any more: mark(2)", x.mark(2), 2);
        x.bend(3, 0, -8);
        check.due("a TRAP again: mark(2)", x.mark(2), 99);
    }

    static void promise31_mark_changesNothingButTRACE(Check check) {
        for (int side = 0; side < 7; side++) {
            CutOnce x = State.full();
            x.mark(side);
            var got = State.reading(x);
            var want = State.reading(State.full());
            got.remove("trace()");
            want.remove("trace()");
            check.same("behind mark(" + side + ")", got, want);
        }
    }

    static void promise31_mark_UNKNOWN_leavesNoNumberInTRACE(Check check) {
        for (int side : NO_SIDE) {
            State.refused(check, State::full, "mark(" + side + ")", x -> x.mark(side), CutOnce.UNKNOWN, State.STAYS);
        }
        State.refused(check, CutOnce::new, "mark(0)", x -> x.mark(0), CutOnce.UNKNOWN, State.STAYS);
    }

    // ---- 32 as

    static void promise32_as_eachIsASIDE(Check check) {
        for (int side = 0; side < 4; side++) {
            check.due("as(" + side + ", 0)", kinds().as(side, 0), 1);
        }
    }

    static void promise32_as_aTRAPIsABULGE(Check check) {
        CutOnce x = kinds();
        check.due("a BULGE: as(1, 1)", x.as(1, 1), 1);
        check.due("a TRAP: as(2, 1)", x.as(2, 1), 1);
        check.due("a TRAP: as(2, 2)", x.as(2, 2), 1);
        check.due("fault()", x.fault(), 0);
    }

    static void promise32_as_CAST_itIsNone(Check check) {
        for (int side : new int[] {0, 4, 6}) {
            State.refused(check, State::full, "a SIDE: as(" + side + ", 1)", x -> x.as(side, 1), -12, 2);
            State.refused(check, State::full, "a SIDE: as(" + side + ", 2)", x -> x.as(side, 2), -12, 2);
        }
        for (int side : new int[] {1, 5}) {
            State.refused(check, State::full, "a BULGE: as(" + side + ", 2)", x -> x.as(side, 2), -12, 2);
        }
    }

    static void promise32_as_changesNothingButFault(Check check) {
        CutOnce x = State.full();
        x.as(2, 2);
        check.same("behind as(2, 2)", State.reading(x), State.reading(State.full()));
    }

    static void promise32_as_UNKNOWN_noSuchSIDE(Check check) {
        for (int side : NO_SIDE) {
            State.refused(check, State::full, "as(" + side + ", 0)", x -> x.as(side, 0), CutOnce.UNKNOWN, 0);
        }
    }

    static void promise32_as_OUTSIDE_kind(Check check) {
        for (int kind : new int[] {LEAST, -1, 3, 4, MOST}) {
            for (int side = 0; side < 3; side++) {
                int of = side;
                State.refused(check, State::full, "as(" + side + ", " + kind + ")", x -> x.as(of, kind), CutOnce.OUTSIDE, 0);
            }
        }
    }

    static void promise32_as_severalAtOnce_UNKNOWNAheadOfOUTSIDE(Check check) {
        State.refused(check, State::full, "as(7, 3)", x -> x.as(7, 3), CutOnce.UNKNOWN, 0);
        State.refused(check, State::full, "as(-1, -1)", x -> x.as(-1, -1), CutOnce.UNKNOWN, 0);
    }

    // ---- 33 trace

    static void promise33_trace_changesNothing(Check check) {
        State.untouched(check, "trace()", x -> x.trace());
    }

    static void promise33_trace_staysBehindAllButTellAndMark(Check check) {
        CutOnce x = State.full();
        int trace = x.trace();
        check.due("BULGE told, TRAP marked: trace()", trace, (2 * 31 + 1) * 31 + 5);
        x.kind(2);
        x.as(2, 2);
        x.unlike();
        x.ways();
        x.make(1);
        x.heap(1);
        x.picture(1, 1);
        check.due("trace()", x.trace(), trace);
        check.due("trace() again", x.trace(), trace);
    }

    // ---- 34 fault

    static void promise34_fault_changesNothing(Check check) {
        State.untouched(check, "fault()", x -> x.fault());
    }

    static void promise34_fault_0AheadOfAny(Check check) {
        CutOnce x = new CutOnce();
        check.due("fault()", x.fault(), 0);
        x.picture(0, 0);
        x.told(9);
        x.take(0);
        check.due("fault() behind refusals of others", x.fault(), 0);
    }

    private static void faultBehind(Check check, String name, State.Call call, int due) {
        for (int ahead = 1; ahead <= 4; ahead++) {
            CutOnce x = State.full();
            x.sheet(3, 0, 1);
            x.lose(3);
            switch (ahead) {
                case 1: x.put(3, 0, 0); break;
                case 2: x.cell(0, 0, 1); break;
                case 3: x.put(0, 6, 0); break;
                default: x.sheet(0, 0, -1); break;
            }
            check.due("fault() ahead of " + name, x.fault(), ahead);
            call.on(x);
            check.due("fault() behind " + name + ", " + ahead + " ahead", x.fault(), due == State.STAYS ? ahead : due);
            check.due("fault() again", x.fault(), due == State.STAYS ? ahead : due);
        }
    }

    static void promise34_fault_0ItCameToNone(Check check) {
        faultBehind(check, "shape(1, 1, 0, 1, 0)", x -> x.shape(1, 1, 0, 1, 0), 0);
        faultBehind(check, "shape(1, 1, 0, 0, 0)", x -> x.shape(1, 1, 0, 0, 0), 0);
        faultBehind(check, "sheet(3, 2, 50)", x -> x.sheet(3, 2, 50), 0);
        faultBehind(check, "put(0, 0, 0)", x -> x.put(0, 0, 0), 0);
        faultBehind(check, "cell(0, 0, 0)", x -> x.cell(0, 0, 0), 0);
        faultBehind(check, "copy(0, 0, 0, 0, 0)", x -> x.copy(0, 0, 0, 0, 0), 0);
        faultBehind(check, "as(0, 0)", x -> x.as(0, 0), 0);
    }

    static void promise34_fault_0ItWasRefused(Check check) {
        faultBehind(check, "shape(4, 1, 0, 1, 0)", x -> x.shape(4, 1, 0, 1, 0), 0);
        faultBehind(check, "shape(1, 1, 0, 1, 7)", x -> x.shape(1, 1, 0, 1, 7), 0);
        faultBehind(check, "shape(1, 3, 0, 1, 0)", x -> x.shape(1, 3, 0, 1, 0), 0);
        faultBehind(check, "shape(0, 0, 0, 1, 0)", x -> x.shape(0, 0, 0, 1, 0), 0);
        faultBehind(check, "sheet(4, 2, 5)", x -> x.sheet(4, 2, 5), 0);
        faultBehind(check, "sheet(0, 3, 5)", x -> x.sheet(0, 3, 5), 0);
        faultBehind(check, "sheet(0, 0, 51)", x -> x.sheet(0, 0, 51), 0);
        faultBehind(check, "put(4, 0, 0)", x -> x.put(4, 0, 0), 0);
        faultBehind(check, "cell(-1, 0, 0)", x -> x.cell(-1, 0, 0), 0);
        faultBehind(check, "cell(0, 0, 3)", x -> x.cell(0, 0, 3), 0);
        faultBehind(check, "copy(4, 0, 0, 0, 0)", x -> x.copy(4, 0, 0, 0, 0), 0);
        faultBehind(check, "copy(0, 0, 4, 0, 0)", x -> x.copy(0, 0, 4, 0, 0), 0);
        faultBehind(check, "as(7, 0)", x -> x.as(7, 0), 0);
        faultBehind(check, "as(0, 3)", x -> x.as(0, 3), 0);
    }

    static void promise34_fault_theLatestFAULT(Check check) {
        faultBehind(check, "shape NULL", x -> x.shape(3, 1, 0, 1, 0), 1);
        faultBehind(check, "shape CAST", x -> x.shape(1, 2, 0, 1, 0), 2);
        faultBehind(check, "shape INDEX", x -> x.shape(1, 1, 13, 0, 0), 3);
        faultBehind(check, "shape SIZE", x -> x.shape(1, 1, 0, -1, 0), 4);
        faultBehind(check, "sheet SIZE", x -> x.sheet(1, 1, -1), 4);
        faultBehind(check, "put NULL", x -> x.put(3, 0, 0), 1);
        faultBehind(check, "put INDEX", x -> x.put(1, 12, 0), 3);
        faultBehind(check, "cell CAST", x -> x.cell(1, 0, 2), 2);
        faultBehind(check, "cell NULL", x -> x.cell(3, 0, 2), 1);
        faultBehind(check, "cell INDEX", x -> x.cell(1, 12, 1), 3);
        faultBehind(check, "copy NULL", x -> x.copy(0, 0, 3, 0, 0), 1);
        faultBehind(check, "copy CAST", x -> x.copy(0, 0, 1, 0, 0), 2);
        faultBehind(check, "copy INDEX", x -> x.copy(0, 0, 0, 0, 7), 3);
        faultBehind(check, "as CAST", x -> x.as(0, 2), 2);
    }

    static void promise34_fault_staysBehindCallsThatNameNone(Check check) {
        faultBehind(check, "picture(2, 2)", x -> x.picture(2, 2), State.STAYS);
        faultBehind(check, "picture(0, 2)", x -> x.picture(0, 2), State.STAYS);
        faultBehind(check, "make(1)", x -> x.make(1), State.STAYS);
        faultBehind(check, "bend(0, 0, 1)", x -> x.bend(0, 0, 1), State.STAYS);
        faultBehind(check, "height(0, 0)", x -> x.height(0, 0), State.STAYS);
        faultBehind(check, "sideOf(0, 0)", x -> x.sideOf(0, 0), State.STAYS);
        faultBehind(check, "edge(0, 1, 0)", x -> x.edge(0, 1, 0), State.STAYS);
        faultBehind(check, "far(0, 1, 1, 3)", x -> x.far(0, 1, 1, 3), State.STAYS);
        faultBehind(check, "kind(0)", x -> x.kind(0), State.STAYS);
        faultBehind(check, "unlike()", x -> x.unlike(), State.STAYS);
        faultBehind(check, "traps(0)", x -> x.traps(0), State.STAYS);
        faultBehind(check, "alike(0, 1, 0)", x -> x.alike(0, 1, 0), State.STAYS);
        faultBehind(check, "lay(0, 0)", x -> x.lay(0, 0), State.STAYS);
        faultBehind(check, "heap(0)", x -> x.heap(0), State.STAYS);
        faultBehind(check, "take(0)", x -> x.take(0), State.STAYS);
        faultBehind(check, "heaped(0, 0)", x -> x.heaped(0, 0), State.STAYS);
        faultBehind(check, "missing(0)", x -> x.missing(0), State.STAYS);
        faultBehind(check, "missed(1, 0)", x -> x.missed(1, 0), State.STAYS);
        faultBehind(check, "ways()", x -> x.ways(), State.STAYS);
        faultBehind(check, "join()", x -> x.join(), State.STAYS);
        faultBehind(check, "joined(0, 0)", x -> x.joined(0, 0), State.STAYS);
        faultBehind(check, "trials()", x -> x.trials(), State.STAYS);
        faultBehind(check, "known(0)", x -> x.known(0), State.STAYS);
        faultBehind(check, "lose(0)", x -> x.lose(0), State.STAYS);
        faultBehind(check, "tell(0)", x -> x.tell(0), State.STAYS);
        faultBehind(check, "mark(0)", x -> x.mark(0), State.STAYS);
        faultBehind(check, "trace()", x -> x.trace(), State.STAYS);
        faultBehind(check, "told(0)", x -> x.told(0), State.STAYS);
    }

    // ---- 35 told

    static void promise35_told_0w1h2PIECES3SIDES4InTHEHEAP(Check check) {
        CutOnce x = State.full();
        int[] due = {3, 2, 6, 7, 7};
        for (int what = 0; what < 5; what++) {
            check.due("told(" + what + ")", x.told(what), due[what]);
        }
    }

    static void promise35_told_changesNothing(Check check) {
        State.untouched(check, "told(0)", x -> x.told(0));
        State.untouched(check, "told(1)", x -> x.told(1));
        State.untouched(check, "told(2)", x -> x.told(2));
        State.untouched(check, "told(3)", x -> x.told(3));
        State.untouched(check, "told(4)", x -> x.told(4));
    }

    static void promise35_told_leastAndGreatest(Check check) {
        int[] least = {1, 1, 1, 0, 0};
        int[] greatest = {5, 5, 25, 40, 25};
        CutOnce x = new CutOnce();
        CutOnce y = State.picture(5, 5);
        y.heap(1);
        for (int what = 0; what < 5; what++) {
            check.due("least: told(" + what + ")", x.told(what), least[what]);
            check.due("greatest: told(" + what + ")", y.told(what), greatest[what]);
        }
    }

    static void promise35_told_wAndHAreToldApart(Check check) {
        CutOnce x = State.picture(1, 5);
        check.due("1 by 5: told(0)", x.told(0), 1);
        check.due("1 by 5: told(1)", x.told(1), 5);
        x.picture(5, 1);
        check.due("5 by 1: told(0)", x.told(0), 5);
        check.due("5 by 1: told(1)", x.told(1), 1);
    }

    static void promise35_told_OUTSIDE_what(Check check) {
        for (int what : new int[] {LEAST, -1, 5, 6, MOST}) {
            State.refused(check, State::full, "told(" + what + ")", x -> x.told(what), CutOnce.OUTSIDE, State.STAYS);
        }
    }
}
