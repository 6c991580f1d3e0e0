/** Promises 25 to 29, and 34 of these: sheets with their faults. */
public final class SheetsTest {
    private static final Check check = new Check("SheetsTest");
    private static final int MOST = Integer.MAX_VALUE;
    private static final int LEAST = Integer.MIN_VALUE;

    public static void main(String[] args) {
        newSheets();
        newSheetsRefused();
        losing();
        putting();
        puttingRefused();
        cells();
        copying();
        copyingOverItself();
        copyingRefused();
        check.end();
    }

    private static void faulty(CutOnce x, String call, long got, long want, int fault) {
        check.due(call, got, want);
        check.due(call + ": fault()", x.fault(), fault);
    }

    private static void newSheets() {
        CutOnce x = new CutOnce();
        for (int lane = 0; lane < 3; lane++) {
            for (int n : new int[] {0, 1, 50}) {
                faulty(x, "sheet(3, " + lane + ", " + n + ")", x.sheet(3, lane, n), 1, 0);
                for (int i = 0; i < n; i += 7) {
                    check.due("cell(3, " + i + ", " + lane + ")", x.cell(3, i, lane), 0);
                }
                faulty(x, "cell(3, " + n + ", " + lane + ")", x.cell(3, n, lane), CutOnce.LOST, 3);
            }
        }
        x.sheet(0, 2, 4);
        x.put(0, 3, 8);
        x.sheet(0, 2, 4);
        check.due("a new row is 0: cell(0, 3, 2)", x.cell(0, 3, 2), 0);
        x.put(0, 3, 8);
        x.sheet(0, 2, 2);
        x.sheet(0, 2, 4);
        check.due("a new row is 0 beyond a short one: cell(0, 3, 2)", x.cell(0, 3, 2), 0);
        check.due("other sheets have nothing: lose(1)", x.lose(1), 0);
    }

    private static void newSheetsRefused() {
        CutOnce x = new CutOnce();
        x.sheet(1, 1, 6);
        x.put(1, 5, 44);
        for (int k : new int[] {LEAST, -1, 4, MOST}) {
            faulty(x, "sheet(" + k + ", 1, 1)", x.sheet(k, 1, 1), CutOnce.UNKNOWN, 0);
            faulty(x, "sheet(" + k + ", 3, -1)", x.sheet(k, 3, -1), CutOnce.UNKNOWN, 0);
        }
        for (int lane : new int[] {LEAST, -1, 3, MOST}) {
            faulty(x, "sheet(1, " + lane + ", 1)", x.sheet(1, lane, 1), CutOnce.OUTSIDE, 0);
            faulty(x, "sheet(1, " + lane + ", -1): OUTSIDE comes first", x.sheet(1, lane, -1), CutOnce.OUTSIDE, 0);
        }
        faulty(x, "sheet(1, 1, 51)", x.sheet(1, 1, 51), CutOnce.OUTSIDE, 0);
        faulty(x, "sheet(1, 1, most)", x.sheet(1, 1, MOST), CutOnce.OUTSIDE, 0);
        faulty(x, "sheet(1, 1, -1)", x.sheet(1, 1, -1), -14, 4);
        faulty(x, "sheet(1, 1, least)", x.sheet(1, 1, LEAST), -14, 4);
        faulty(x, "sheet(1, 1, 51) behind a fault", x.sheet(1, 1, 51), CutOnce.OUTSIDE, 0);
        check.due("refused: cell(1, 5, 1)", x.cell(1, 5, 1), 44);
        check.due("refused: lose(1)", x.lose(1), 1);
    }

    private static void losing() {
        CutOnce x = new CutOnce();
        check.due("lose(2) of nothing", x.lose(2), 0);
        x.sheet(2, 0, 0);
        check.due("lose(2) of none", x.lose(2), 1);
        check.due("lose(2) again", x.lose(2), 0);
        x.sheet(2, 0, 5);
        check.due("lose(2)", x.lose(2), 1);
        faulty(x, "put(2, 0, 1)", x.put(2, 0, 1), -11, 1);
        for (int k : new int[] {LEAST, -1, 4, MOST}) {
            check.due("lose(" + k + ")", x.lose(k), CutOnce.UNKNOWN);
        }
        check.due("lose() leaves fault()", x.fault(), 1);
    }

    private static void putting() {
        int[] numbers = {0, 1, -1, 127, 128, -128, -129, 255, 256, 32767, 32768, -32768, -32769, 65535, 65536, MOST, LEAST, 123456789};
        CutOnce x = new CutOnce();
        for (int lane = 0; lane < 3; lane++) {
            x.sheet(lane, lane, numbers.length);
            for (int i = 0; i < numbers.length; i++) {
                check.due("put(" + lane + ", " + i + ", " + numbers[i] + ")", x.put(lane, i, numbers[i]), 1);
            }
            for (int i = 0; i < numbers.length; i++) {
                long due = lane == 0 ? (byte) numbers[i] : lane == 1 ? (short) numbers[i] : numbers[i];
                check.due("cell(" + lane + ", " + i + ", " + lane + ")", x.cell(lane, i, lane), due);
            }
        }
        check.due("put(0, 0, 300)", x.put(0, 0, 300), 1);
        check.due("a byte of 300: cell(0, 0, 0)", x.cell(0, 0, 0), 44);
        check.due("put(1, 0, 40000)", x.put(1, 0, 40000), 1);
        check.due("a short of 40000: cell(1, 0, 1)", x.cell(1, 0, 1), -25536);
    }

    private static void puttingRefused() {
        CutOnce x = new CutOnce();
        x.sheet(0, 2, 3);
        x.sheet(1, 2, 0);
        for (int k : new int[] {LEAST, -1, 4, MOST}) {
            faulty(x, "put(" + k + ", 0, 1)", x.put(k, 0, 1), CutOnce.UNKNOWN, 0);
        }
        faulty(x, "put(2, -1, 1): NULL comes first", x.put(2, -1, 1), -11, 1);
        for (int i : new int[] {LEAST, -1, 3, 50, MOST}) {
            faulty(x, "put(0, " + i + ", 1)", x.put(0, i, 1), -13, 3);
        }
        faulty(x, "put(1, 0, 1) of none", x.put(1, 0, 1), -13, 3);
        faulty(x, "put(4, 0, 1) behind a fault", x.put(4, 0, 1), CutOnce.UNKNOWN, 0);
        x.put(0, 3, 1);
        faulty(x, "put(0, 2, 1) behind a fault", x.put(0, 2, 1), 1, 0);
        for (int i = 0; i < 3; i++) {
            check.due("cell(0, " + i + ", 2)", x.cell(0, i, 2), i == 2 ? 1 : 0);
        }
    }

    private static void cells() {
        CutOnce x = new CutOnce();
        x.sheet(0, 1, 3);
        x.put(0, 2, -7);
        faulty(x, "cell(0, 2, 1)", x.cell(0, 2, 1), -7, 0);
        for (int k : new int[] {LEAST, -1, 4, MOST}) {
            x.put(1, 0, 0);
            faulty(x, "cell(" + k + ", 0, 1)", x.cell(k, 0, 1), CutOnce.LOST, 0);
        }
        for (int lane : new int[] {LEAST, -1, 3, MOST}) {
            x.put(1, 0, 0);
            faulty(x, "cell(0, 0, " + lane + ")", x.cell(0, 0, lane), CutOnce.LOST, 0);
        }
        faulty(x, "cell(0, 0, 0)", x.cell(0, 0, 0), CutOnce.LOST, 2);
        faulty(x, "cell(0, 3, 2): CAST comes first", x.cell(0, 3, 2), CutOnce.LOST, 2);
        for (int lane = 0; lane < 3; lane++) {
            faulty(x, "cell(1, -1, " + lane + ") of nothing: NULL comes first", x.cell(1, -1, lane), CutOnce.LOST, 1);
        }
        for (int i : new int[] {LEAST, -1, 3, MOST}) {
            faulty(x, "cell(0, " + i + ", 1)", x.cell(0, i, 1), CutOnce.LOST, 3);
        }
        x.lose(0);
        faulty(x, "cell(0, 0, 0) of what is lost is no CAST", x.cell(0, 0, 0), CutOnce.LOST, 1);
    }

    private static CutOnce counted(int lane) {
        CutOnce x = new CutOnce();
        x.sheet(0, lane, 8);
        x.sheet(1, lane, 6);
        for (int i = 0; i < 8; i++) {
            x.put(0, i, i + 1);
        }
        return x;
    }

    private static void row(CutOnce x, String what, int k, int lane, long... due) {
        for (int i = 0; i < due.length; i++) {
            check.due(what + ": cell(" + k + ", " + i + ", " + lane + ")", x.cell(k, i, lane), due[i]);
        }
    }

    private static void copying() {
        for (int lane = 0; lane < 3; lane++) {
            CutOnce x = counted(lane);
            faulty(x, "copy(0, 2, 1, 1, 4)", x.copy(0, 2, 1, 1, 4), 4, 0);
            row(x, "copied", 1, lane, 0, 3, 4, 5, 6, 0);
            row(x, "copied from", 0, lane, 1, 2, 3, 4, 5, 6, 7, 8);
            faulty(x, "copy(0, 0, 1, 6, 0)", x.copy(0, 0, 1, 6, 0), 0, 0);
            faulty(x, "copy(0, 8, 1, 0, 0)", x.copy(0, 8, 1, 0, 0), 0, 0);
            faulty(x, "copy(0, 7, 1, 5, 1)", x.copy(0, 7, 1, 5, 1), 1, 0);
            faulty(x, "copy(1, 0, 0, 2, 6)", x.copy(1, 0, 0, 2, 6), 6, 0);
            row(x, "copied back", 0, lane, 1, 2, 0, 3, 4, 5, 6, 8);
        }
    }

    private static void copyingOverItself() {
        CutOnce x = counted(2);
        check.due("copy(0, 0, 0, 2, 6)", x.copy(0, 0, 0, 2, 6), 6);
        row(x, "moved up", 0, 2, 1, 2, 1, 2, 3, 4, 5, 6);
        check.due("copy(0, 2, 0, 1, 5)", x.copy(0, 2, 0, 1, 5), 5);
        row(x, "moved down", 0, 2, 1, 1, 2, 3, 4, 5, 5, 6);
        check.due("copy(0, 0, 0, 0, 8)", x.copy(0, 0, 0, 0, 8), 8);
        row(x, "left", 0, 2, 1, 1, 2, 3, 4, 5, 5, 6);
    }

    private static void copyingRefused() {
        CutOnce x = counted(1);
        x.sheet(3, 0, 8);
        for (int k : new int[] {LEAST, -1, 4, MOST}) {
            faulty(x, "copy(" + k + ", 0, 1, 0, 1)", x.copy(k, 0, 1, 0, 1), CutOnce.UNKNOWN, 0);
            faulty(x, "copy(0, 0, " + k + ", 0, 1)", x.copy(0, 0, k, 0, 1), CutOnce.UNKNOWN, 0);
            faulty(x, "copy(2, 0, " + k + ", 0, 1): UNKNOWN comes first", x.copy(2, 0, k, 0, 1), CutOnce.UNKNOWN, 0);
        }
        faulty(x, "copy(2, 0, 0, 0, 1)", x.copy(2, 0, 0, 0, 1), -11, 1);
        faulty(x, "copy(0, 0, 2, 0, 1)", x.copy(0, 0, 2, 0, 1), -11, 1);
        faulty(x, "copy(2, 0, 2, 0, 0)", x.copy(2, 0, 2, 0, 0), -11, 1);
        faulty(x, "copy(3, -1, 2, 0, -1): NULL comes first", x.copy(3, -1, 2, 0, -1), -11, 1);
        faulty(x, "copy(0, 0, 3, 0, 1)", x.copy(0, 0, 3, 0, 1), -12, 2);
        faulty(x, "copy(3, 0, 0, 0, 0)", x.copy(3, 0, 0, 0, 0), -12, 2);
        faulty(x, "copy(3, -1, 0, 9, -1): CAST comes first", x.copy(3, -1, 0, 9, -1), -12, 2);
        long[][] outside = {
            {-1, 0, 1}, {0, -1, 1}, {0, 0, -1}, {-1, 0, 0}, {0, -1, 0}, {9, 0, 0}, {0, 7, 0}, {8, 0, 1}, {0, 6, 1},
            {0, 0, 7}, {3, 0, 6}, {0, 1, 6}, {MOST, 0, 1}, {0, MOST, 1}, {0, 0, MOST}, {1, 1, MOST}, {MOST, MOST, MOST},
            {LEAST, 0, 1}, {0, LEAST, 1}, {0, 0, LEAST}, {8, 6, LEAST}};
        for (long[] o : outside) {
            String call = "copy(0, " + o[0] + ", 1, " + o[1] + ", " + o[2] + ")";
            faulty(x, call, x.copy(0, (int) o[0], 1, (int) o[1], (int) o[2]), -13, 3);
        }
        row(x, "refused", 1, 1, 0, 0, 0, 0, 0, 0);
        row(x, "refused", 0, 1, 1, 2, 3, 4, 5, 6, 7, 8);
    }
}
