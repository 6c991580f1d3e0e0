/** 'Terms' 4, its SHEETS, and promises 25 to 29: each sentence that names a bound, an edge or a refusal has a test of its own. */
public final class BoundsSheetsTest {
    private static final int MOST = State.MOST;
    private static final int LEAST = State.LEAST;
    private static final long LOST = CutOnce.LOST;
    private static final int[] NO_SHEET = {LEAST, -1, 4, 5, MOST};
    private static final int[] NO_LANE = {LEAST, -1, 3, 4, MOST};

    public static void main(String[] args) {
        Sentences.holdAll(BoundsSheetsTest.class);
    }

    /** An answer of -11 and less is a fault. */
    private static void refused(Check check, String name, State.Call call, int answer) {
        State.refused(check, State::full, name, call, answer, answer <= -11 ? -10 - answer : 0);
    }

    private static void cellFault(Check check, String name, State.Call call, int fault) {
        State.refused(check, State::full, name, call, LOST, fault);
    }

    private static void row(Check check, CutOnce x, int k, int lane, long... due) {
        for (int i = 0; i < due.length; i++) {
            check.due("cell(" + k + ", " + i + ", " + lane + ")", x.cell(k, i, lane), due[i]);
        }
        check.due("cell(" + k + ", " + due.length + ", " + lane + ")", x.cell(k, due.length, lane), LOST);
        check.due("fault()", x.fault(), 3);
    }

    // ---- Terms 4, SHEETS

    static void terms_4_SHEETS_0To3(Check check) {
        CutOnce x = new CutOnce();
        for (int k = 0; k < 4; k++) {
            check.due("sheet(" + k + ", 2, 1)", x.sheet(k, 2, 1), 1);
            check.due("put(" + k + ", 0, " + (k + 7) + ")", x.put(k, 0, k + 7), 1);
        }
        for (int k = 0; k < 4; k++) {
            check.due("cell(" + k + ", 0, 2)", x.cell(k, 0, 2), k + 7);
        }
        check.due("sheet(-1, 2, 1)", x.sheet(-1, 2, 1), CutOnce.UNKNOWN);
        check.due("sheet(4, 2, 1)", x.sheet(4, 2, 1), CutOnce.UNKNOWN);
    }

    static void terms_4_SHEETS_haveNothingAtFirst(Check check) {
        CutOnce x = new CutOnce();
        for (int k = 0; k < 4; k++) {
            check.due("lose(" + k + ")", x.lose(k), 0);
            check.due("put(" + k + ", 0, 1)", x.put(k, 0, 1), -11);
        }
    }

    static void terms_4_SHEETS_aRowOf0To50Numbers(Check check) {
        CutOnce x = new CutOnce();
        for (int lane = 0; lane < 3; lane++) {
            check.due("sheet(0, " + lane + ", 0)", x.sheet(0, lane, 0), 1);
            row(check, x, 0, lane);
            check.due("sheet(0, " + lane + ", 1)", x.sheet(0, lane, 1), 1);
            row(check, x, 0, lane, 0);
            check.due("sheet(0, " + lane + ", 50)", x.sheet(0, lane, 50), 1);
            row(check, x, 0, lane, new long[50]);
            check.due("sheet(0, " + lane + ", 51)", x.sheet(0, lane, 51), CutOnce.OUTSIDE);
            check.due("sheet(0, " + lane + ", -1)", x.sheet(0, lane, -1), -14);
        }
    }

    static void terms_4_SHEETS_numbersAre0AtFirst(Check check) {
        CutOnce x = new CutOnce();
        for (int lane = 0; lane < 3; lane++) {
            x.sheet(lane, lane, 50);
            row(check, x, lane, lane, new long[50]);
        }
    }

    private static void cut(Check check, int lane, int[][] putAndDue) {
        CutOnce x = new CutOnce();
        x.sheet(1, lane, 50);
        for (int[] one : putAndDue) {
            for (int i : new int[] {0, 49}) {
                check.due("put(1, " + i + ", " + one[0] + ")", x.put(1, i, one[0]), 1);
                check.due("cell(1, " + i + ", " + lane + ")", x.cell(1, i, lane), one[1]);
            }
        }
    }

    static void terms_4_LANE_0BytesCut(Check check) {
        cut(check, 0, new int[][] {{127, 127}, {128, -128}, {-128, -128}, {-129, 127}, {255, -1}, {256, 0}, {-256, 0}, {-257, -1},
            {32767, -1}, {32768, 0}, {MOST, -1}, {LEAST, 0}, {0, 0}, {-1, -1}});
    }

    static void terms_4_LANE_1ShortsCut(Check check) {
        cut(check, 1, new int[][] {{127, 127}, {128, 128}, {-129, -129}, {32767, 32767}, {32768, -32768}, {-32768, -32768},
            {-32769, 32767}, {65535, -1}, {65536, 0}, {-65537, -1}, {MOST, -1}, {LEAST, 0}, {0, 0}, {-1, -1}});
    }

    static void terms_4_LANE_2IntsAsTheyAre(Check check) {
        cut(check, 2, new int[][] {{127, 127}, {128, 128}, {32768, 32768}, {-32769, -32769}, {65536, 65536}, {MOST, MOST},
            {LEAST, LEAST}, {0, 0}, {-1, -1}});
    }

    // ---- 25 sheet

    static void promise25_sheet_getsANewRowOf0WhateverWasThere(Check check) {
        for (int lane = 0; lane < 3; lane++) {
            CutOnce x = State.full();
            check.due("sheet(1, " + lane + ", 4)", x.sheet(1, lane, 4), 1);
            check.due("fault()", x.fault(), 0);
            row(check, x, 1, lane, 0, 0, 0, 0);
            check.due("sheet(1, " + lane + ", 12)", x.sheet(1, lane, 12), 1);
            row(check, x, 1, lane, new long[12]);
        }
    }

    static void promise25_sheet_theSameAgainIsNewToo(Check check) {
        CutOnce x = new CutOnce();
        x.sheet(2, 2, 50);
        x.put(2, 0, 5);
        x.put(2, 49, 5);
        check.due("sheet(2, 2, 50)", x.sheet(2, 2, 50), 1);
        row(check, x, 2, 2, new long[50]);
    }

    static void promise25_sheet_leavesTheOtherSHEETS(Check check) {
        CutOnce x = State.full();
        x.sheet(1, 1, 12);
        var got = State.reading(x);
        var want = State.reading(State.full());
        want.keySet().removeIf(call -> call.startsWith("cell(1,") || call.equals("fault()"));
        got.keySet().retainAll(want.keySet());
        check.same("behind sheet(1, 1, 12)", got, want);
    }

    static void promise25_sheet_UNKNOWN_noSuchSHEET(Check check) {
        for (int k : NO_SHEET) {
            refused(check, "sheet(" + k + ", 1, 5)", x -> x.sheet(k, 1, 5), CutOnce.UNKNOWN);
        }
    }

    static void promise25_sheet_OUTSIDE_lane(Check check) {
        for (int lane : NO_LANE) {
            refused(check, "sheet(1, " + lane + ", 5)", x -> x.sheet(1, lane, 5), CutOnce.OUTSIDE);
        }
    }

    static void promise25_sheet_OUTSIDE_nAbove50(Check check) {
        for (int n : new int[] {51, 52, 256, MOST}) {
            for (int lane = 0; lane < 3; lane++) {
                int of = lane;
                refused(check, "sheet(1, " + lane + ", " + n + ")", x -> x.sheet(1, of, n), CutOnce.OUTSIDE);
            }
        }
    }

    static void promise25_sheet_SIZE_nBelow0(Check check) {
        for (int n : new int[] {LEAST, -51, -1}) {
            for (int k = 0; k < 4; k++) {
                int on = k;
                refused(check, "sheet(" + k + ", 1, " + n + ")", x -> x.sheet(on, 1, n), -14);
            }
        }
    }

    static void promise25_sheet_severalAtOnce_UNKNOWNAheadOfOUTSIDEAndSIZE(Check check) {
        for (int k : new int[] {-1, 4}) {
            refused(check, "sheet(" + k + ", 3, 5)", x -> x.sheet(k, 3, 5), CutOnce.UNKNOWN);
            refused(check, "sheet(" + k + ", 1, 51)", x -> x.sheet(k, 1, 51), CutOnce.UNKNOWN);
            refused(check, "sheet(" + k + ", 1, -1)", x -> x.sheet(k, 1, -1), CutOnce.UNKNOWN);
            refused(check, "sheet(" + k + ", -1, -1)", x -> x.sheet(k, -1, -1), CutOnce.UNKNOWN);
        }
    }

    static void promise25_sheet_severalAtOnce_OUTSIDEOfALaneAheadOfSIZE(Check check) {
        refused(check, "sheet(1, 3, -1)", x -> x.sheet(1, 3, -1), CutOnce.OUTSIDE);
        refused(check, "sheet(1, -1, -1)", x -> x.sheet(1, -1, -1), CutOnce.OUTSIDE);
        refused(check, "sheet(1, 3, 51)", x -> x.sheet(1, 3, 51), CutOnce.OUTSIDE);
    }

    // ---- 26 lose

    static void promise26_lose_1ItHadARowAlsoAnEmptyOne(Check check) {
        CutOnce x = State.full();
        for (int k = 0; k < 3; k++) {
            check.due("lose(" + k + ")", x.lose(k), 1);
            check.due("put(" + k + ", 0, 0)", x.put(k, 0, 0), -11);
        }
        x.sheet(3, 0, 0);
        check.due("of none: lose(3)", x.lose(3), 1);
        check.due("put(3, 0, 0)", x.put(3, 0, 0), -11);
    }

    static void promise26_lose_0ItHadNothing(Check check) {
        CutOnce x = State.full();
        check.due("lose(3)", x.lose(3), 0);
        check.due("lose(0)", x.lose(0), 1);
        check.due("again: lose(0)", x.lose(0), 0);
    }

    static void promise26_lose_namesNoFAULTS(Check check) {
        CutOnce x = State.full();
        x.sheet(0, 0, -1);
        check.due("lose(3)", x.lose(3), 0);
        check.due("fault()", x.fault(), 4);
        check.due("lose(0)", x.lose(0), 1);
        check.due("fault()", x.fault(), 4);
    }

    static void promise26_lose_losesThatSHEETAlone(Check check) {
        CutOnce x = State.full();
        x.lose(1);
        var got = State.reading(x);
        var want = State.reading(State.full());
        want.keySet().removeIf(call -> call.startsWith("cell(1,"));
        got.keySet().retainAll(want.keySet());
        check.same("behind lose(1)", got, want);
    }

    static void promise26_lose_UNKNOWN_noSuchSHEET(Check check) {
        for (int k : NO_SHEET) {
            State.refused(check, State::full, "lose(" + k + ")", x -> x.lose(k), CutOnce.UNKNOWN, State.STAYS);
        }
    }

    // ---- 27 put

    static void promise27_put_theFirstAndTheLastCellOfAFullRow(Check check) {
        CutOnce x = new CutOnce();
        x.sheet(3, 2, 50);
        check.due("put(3, 0, 8)", x.put(3, 0, 8), 1);
        check.due("put(3, 49, 9)", x.put(3, 49, 9), 1);
        check.due("put(3, 50, 9)", x.put(3, 50, 9), -13);
        long[] due = new long[50];
        due[0] = 8;
        due[49] = 9;
        row(check, x, 3, 2, due);
    }

    static void promise27_put_thatCellAlone(Check check) {
        for (int i = 0; i < 12; i++) {
            CutOnce x = State.full();
            var want = State.reading(State.full());
            want.put("cell(1, " + i + ", 1)", 77L);
            want.put("fault()", 0L);
            check.due("put(1, " + i + ", 77)", x.put(1, i, 77), 1);
            check.same("behind put(1, " + i + ", 77)", State.reading(x), want);
        }
    }

    static void promise27_put_anyIntIsTaken(Check check) {
        CutOnce x = State.full();
        for (int k = 0; k < 3; k++) {
            check.due("put(" + k + ", 0, most)", x.put(k, 0, MOST), 1);
            check.due("put(" + k + ", 0, least)", x.put(k, 0, LEAST), 1);
        }
    }

    static void promise27_put_UNKNOWN_noSuchSHEET(Check check) {
        for (int k : NO_SHEET) {
            refused(check, "put(" + k + ", 0, 1)", x -> x.put(k, 0, 1), CutOnce.UNKNOWN);
        }
    }

    static void promise27_put_NULL_thereIsNothing(Check check) {
        refused(check, "put(3, 0, 1)", x -> x.put(3, 0, 1), -11);
    }

    static void promise27_put_INDEX_noSuchCell(Check check) {
        for (int i : new int[] {LEAST, -1, 12, 13, 49, 50, MOST}) {
            refused(check, "put(1, " + i + ", 1)", x -> x.put(1, i, 1), -13);
        }
        CutOnce x = new CutOnce();
        x.sheet(0, 0, 0);
        check.due("of none: put(0, 0, 1)", x.put(0, 0, 1), -13);
    }

    static void promise27_put_severalAtOnce_UNKNOWNAheadOfINDEXAndNULLAheadOfINDEX(Check check) {
        refused(check, "put(4, -1, 1)", x -> x.put(4, -1, 1), CutOnce.UNKNOWN);
        refused(check, "put(-1, 50, 1)", x -> x.put(-1, 50, 1), CutOnce.UNKNOWN);
        refused(check, "put(3, -1, 1)", x -> x.put(3, -1, 1), -11);
        refused(check, "put(3, 50, 1)", x -> x.put(3, 50, 1), -11);
    }

    // ---- 28 cell

    static void promise28_cell_theFirstAndTheLast(Check check) {
        CutOnce x = State.full();
        check.due("cell(0, 0, 0)", x.cell(0, 0, 0), 10);
        check.due("cell(0, 5, 0)", x.cell(0, 5, 0), -10);
        check.due("cell(1, 0, 1)", x.cell(1, 0, 1), -4);
        check.due("cell(1, 11, 1)", x.cell(1, 11, 1), 10);
        check.due("cell(2, 2, 2)", x.cell(2, 2, 2), MOST);
        check.due("fault()", x.fault(), 0);
    }

    static void promise28_cell_LOST_noSuchSHEETIsNoFAULT(Check check) {
        for (int k : NO_SHEET) {
            cellFault(check, "cell(" + k + ", 0, 1)", x -> x.cell(k, 0, 1), 0);
        }
    }

    static void promise28_cell_LOST_noSuchLaneIsNoFAULT(Check check) {
        for (int lane : NO_LANE) {
            cellFault(check, "cell(1, 0, " + lane + ")", x -> x.cell(1, 0, lane), 0);
            cellFault(check, "cell(3, 0, " + lane + ")", x -> x.cell(3, 0, lane), 0);
        }
    }

    static void promise28_cell_CAST_ofAnotherLANE(Check check) {
        for (int k = 0; k < 3; k++) {
            for (int lane = 0; lane < 3; lane++) {
                if (k != lane) {
                    int on = k;
                    int as = lane;
                    cellFault(check, "cell(" + k + ", 0, " + lane + ")", x -> x.cell(on, 0, as), 2);
                }
            }
        }
    }

    static void promise28_cell_NULL_nothingIsNoCAST(Check check) {
        for (int lane = 0; lane < 3; lane++) {
            int as = lane;
            cellFault(check, "cell(3, 0, " + lane + ")", x -> x.cell(3, 0, as), 1);
        }
        CutOnce x = State.full();
        x.lose(0);
        for (int lane = 0; lane < 3; lane++) {
            check.due("of what was lost: cell(0, 0, " + lane + ")", x.cell(0, 0, lane), LOST);
            check.due("fault()", x.fault(), 1);
        }
    }

    static void promise28_cell_INDEX_noSuchCell(Check check) {
        for (int i : new int[] {LEAST, -1, 12, 13, 49, 50, MOST}) {
            cellFault(check, "cell(1, " + i + ", 1)", x -> x.cell(1, i, 1), 3);
        }
        CutOnce x = new CutOnce();
        x.sheet(0, 0, 0);
        check.due("of none: cell(0, 0, 0)", x.cell(0, 0, 0), LOST);
        check.due("fault()", x.fault(), 3);
    }

    static void promise28_cell_severalAtOnce_refusalsAheadOfFAULTS(Check check) {
        cellFault(check, "cell(4, -1, 3)", x -> x.cell(4, -1, 3), 0);
        cellFault(check, "cell(4, -1, 1)", x -> x.cell(4, -1, 1), 0);
        cellFault(check, "cell(1, -1, 3)", x -> x.cell(1, -1, 3), 0);
        cellFault(check, "cell(3, -1, -1)", x -> x.cell(3, -1, -1), 0);
    }

    static void promise28_cell_severalAtOnce_CASTAndNULLAheadOfINDEX(Check check) {
        cellFault(check, "cell(1, -1, 0)", x -> x.cell(1, -1, 0), 2);
        cellFault(check, "cell(1, 12, 2)", x -> x.cell(1, 12, 2), 2);
        cellFault(check, "cell(3, -1, 0)", x -> x.cell(3, -1, 0), 1);
        cellFault(check, "cell(3, 50, 2)", x -> x.cell(3, 50, 2), 1);
    }

    // ---- 29 copy

    private static void copyRefused(Check check, int k, int i, int other, int j, int n, int answer) {
        String call = "copy(" + k + ", " + i + ", " + other + ", " + j + ", " + n + ")";
        refused(check, call, x -> x.copy(k, i, other, j, n), answer);
    }

    /** Sheets 0 and 1 of a lane: 1 to 8, and six of 0; 2 of another lane; 3 has nothing. */
    private static CutOnce counted(int lane) {
        CutOnce x = new CutOnce();
        x.sheet(0, lane, 8);
        x.sheet(1, lane, 6);
        x.sheet(2, (lane + 1) % 3, 8);
        for (int i = 0; i < 8; i++) {
            x.put(0, i, i + 1);
        }
        return x;
    }

    static void promise29_copy_nCellsFromIOnGoFromJOnAsTheyWere(Check check) {
        for (int lane = 0; lane < 3; lane++) {
            CutOnce x = counted(lane);
            check.due("copy(0, 2, 1, 1, 4)", x.copy(0, 2, 1, 1, 4), 4);
            check.due("fault()", x.fault(), 0);
            row(check, x, 0, lane, 1, 2, 3, 4, 5, 6, 7, 8);
            row(check, x, 1, lane, 0, 3, 4, 5, 6, 0);
            row(check, x, 2, (lane + 1) % 3, new long[8]);
        }
    }

    static void promise29_copy_upToTheLastCellOfEither(Check check) {
        CutOnce x = counted(2);
        check.due("copy(0, 2, 1, 0, 6)", x.copy(0, 2, 1, 0, 6), 6);
        row(check, x, 1, 2, 3, 4, 5, 6, 7, 8);
        check.due("copy(1, 0, 0, 2, 6)", x.copy(1, 0, 0, 2, 6), 6);
        check.due("copy(0, 0, 1, 5, 1)", x.copy(0, 0, 1, 5, 1), 1);
        row(check, x, 1, 2, 3, 4, 5, 6, 7, 1);
    }

    static void promise29_copy_aFullRow(Check check) {
        CutOnce x = new CutOnce();
        x.sheet(0, 1, 50);
        x.sheet(1, 1, 50);
        x.put(0, 0, 5);
        x.put(0, 49, 6);
        check.due("copy(0, 0, 1, 0, 50)", x.copy(0, 0, 1, 0, 50), 50);
        long[] due = new long[50];
        due[0] = 5;
        due[49] = 6;
        row(check, x, 1, 1, due);
        check.due("copy(0, 0, 1, 0, 51)", x.copy(0, 0, 1, 0, 51), -13);
        check.due("copy(0, 49, 1, 0, 1)", x.copy(0, 49, 1, 0, 1), 1);
        check.due("cell(1, 0, 1)", x.cell(1, 0, 1), 6);
    }

    static void promise29_copy_perhapsTheSameUpwardsAsTheyWere(Check check) {
        CutOnce x = counted(0);
        check.due("copy(0, 0, 0, 1, 7)", x.copy(0, 0, 0, 1, 7), 7);
        row(check, x, 0, 0, 1, 1, 2, 3, 4, 5, 6, 7);
    }

    static void promise29_copy_perhapsTheSameDownwardsAsTheyWere(Check check) {
        CutOnce x = counted(1);
        check.due("copy(0, 1, 0, 0, 7)", x.copy(0, 1, 0, 0, 7), 7);
        row(check, x, 0, 1, 2, 3, 4, 5, 6, 7, 8, 8);
    }

    static void promise29_copy_perhapsTheSameToWhereTheyAre(Check check) {
        CutOnce x = counted(2);
        check.due("copy(0, 0, 0, 0, 8)", x.copy(0, 0, 0, 0, 8), 8);
        row(check, x, 0, 2, 1, 2, 3, 4, 5, 6, 7, 8);
    }

    static void promise29_copy_noneAlsoAtTheEndAndOfAnEmptyRow(Check check) {
        CutOnce x = counted(2);
        check.due("copy(0, 8, 1, 6, 0)", x.copy(0, 8, 1, 6, 0), 0);
        check.due("copy(0, 0, 1, 0, 0)", x.copy(0, 0, 1, 0, 0), 0);
        x.sheet(3, 2, 0);
        check.due("copy(3, 0, 3, 0, 0)", x.copy(3, 0, 3, 0, 0), 0);
        check.due("copy(3, 0, 1, 6, 0)", x.copy(3, 0, 1, 6, 0), 0);
        check.due("fault()", x.fault(), 0);
        check.due("copy(3, 0, 1, 0, 1)", x.copy(3, 0, 1, 0, 1), -13);
        check.due("copy(1, 0, 3, 0, 1)", x.copy(1, 0, 3, 0, 1), -13);
        check.due("copy(3, 1, 1, 0, 0)", x.copy(3, 1, 1, 0, 0), -13);
        row(check, x, 1, 2, new long[6]);
    }

    static void promise29_copy_UNKNOWN_noSuchSHEET(Check check) {
        for (int k : NO_SHEET) {
            copyRefused(check, k, 0, 1, 0, 1, -1);
            copyRefused(check, 1, 0, k, 0, 1, -1);
        }
    }

    static void promise29_copy_NULL_theFirst(Check check) {
        copyRefused(check, 3, 0, 1, 0, 1, -11);
        copyRefused(check, 3, 0, 1, 0, 0, -11);
    }

    static void promise29_copy_NULL_theOther(Check check) {
        copyRefused(check, 1, 0, 3, 0, 1, -11);
        copyRefused(check, 1, 0, 3, 0, 0, -11);
        copyRefused(check, 3, 0, 3, 0, 0, -11);
    }

    static void promise29_copy_CAST_unlikeLANES(Check check) {
        for (int k = 0; k < 3; k++) {
            for (int other = 0; other < 3; other++) {
                if (k != other) {
                    copyRefused(check, k, 0, other, 0, 1, -12);
                    copyRefused(check, k, 0, other, 0, 0, -12);
                }
            }
        }
    }

    /** A copy from sheet 0 of 8 to sheet 1 of 6 of the same lane comes to INDEX, and changes neither. */
    private static void outOfRows(Check check, int i, int j, int n) {
        String call = "copy(0, " + i + ", 1, " + j + ", " + n + ")";
        State.refused(check, () -> counted(2), call, x -> x.copy(0, i, 1, j, n), -13, 3);
    }

    static void promise29_copy_INDEX_iBelow0(Check check) {
        outOfRows(check, -1, 0, 1);
        outOfRows(check, -1, 0, 0);
        outOfRows(check, LEAST, 0, 1);
        outOfRows(check, LEAST, 0, 0);
    }

    static void promise29_copy_INDEX_jBelow0(Check check) {
        outOfRows(check, 0, -1, 1);
        outOfRows(check, 0, -1, 0);
        outOfRows(check, 0, LEAST, 1);
        outOfRows(check, 0, LEAST, 0);
    }

    static void promise29_copy_INDEX_nBelow0(Check check) {
        outOfRows(check, 0, 0, -1);
        outOfRows(check, 1, 1, -1);
        outOfRows(check, 8, 6, -1);
        outOfRows(check, 0, 0, LEAST);
        outOfRows(check, 1, 1, LEAST);
    }

    static void promise29_copy_INDEX_iBeyond(Check check) {
        outOfRows(check, 9, 0, 0);
        outOfRows(check, 8, 0, 1);
        outOfRows(check, 3, 0, 6);
        outOfRows(check, MOST, 0, 0);
        outOfRows(check, MOST, 0, 1);
        outOfRows(check, MOST, 0, MOST);
    }

    static void promise29_copy_INDEX_jBeyond(Check check) {
        outOfRows(check, 0, 7, 0);
        outOfRows(check, 0, 6, 1);
        outOfRows(check, 0, 1, 6);
        outOfRows(check, 0, MOST, 0);
        outOfRows(check, 0, MOST, 1);
        outOfRows(check, 0, 4, 3);
    }

    static void promise29_copy_INDEX_nBeyondAlsoIfNumbersGoRound(Check check) {
        outOfRows(check, 0, 0, 7);
        outOfRows(check, 0, 0, 9);
        outOfRows(check, 0, 0, MOST);
        outOfRows(check, 1, 0, MOST);
        outOfRows(check, 0, 1, MOST);
        outOfRows(check, 8, 6, MOST);
    }

    static void promise29_copy_severalAtOnce_UNKNOWNAheadOfFAULTS(Check check) {
        copyRefused(check, 4, 0, 3, 0, 1, -1);
        copyRefused(check, 3, 0, 4, 0, 1, -1);
        copyRefused(check, -1, -1, 1, -1, -1, -1);
        copyRefused(check, 1, -1, -1, 50, -1, -1);
        copyRefused(check, 4, 0, 4, 0, 0, -1);
    }

    static void promise29_copy_severalAtOnce_NULLAheadOfCASTAndINDEX(Check check) {
        // nothing is of no lane that could be unlike
        copyRefused(check, 0, 0, 3, 0, 1, -11);
        copyRefused(check, 3, 0, 2, 0, 1, -11);
        copyRefused(check, 3, -1, 1, 0, 1, -11);
        copyRefused(check, 1, 0, 3, -1, 1, -11);
        copyRefused(check, 1, 0, 3, 0, -1, -11);
    }

    static void promise29_copy_severalAtOnce_CASTAheadOfINDEX(Check check) {
        copyRefused(check, 0, -1, 1, 0, 1, -12);
        copyRefused(check, 0, 0, 1, -1, 1, -12);
        copyRefused(check, 0, 0, 1, 0, -1, -12);
        copyRefused(check, 1, 13, 2, 4, 50, -12);
    }
}
