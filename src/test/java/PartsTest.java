/** Promises 30 to 35: telling, marking, sides taken as a kind, the trace, faults, what is told. */
public final class PartsTest {
    private static final Check check = new Check("PartsTest");
    private static final int[] WRONG = {Integer.MIN_VALUE, -1, 10, 40, Integer.MAX_VALUE};

    public static void main(String[] args) {
        telling();
        marking();
        tracing();
        takenAs();
        faultsOfCallsThatNameThem();
        faultsStay();
        told();
        check.end();
    }

    /** Side 0 no bulge, sum -1; 1 a bulge out, sum 15; 2 a bulge in, sum -20; 3 and 4 traps, sums 30 and -30; 5 .. 9 flat. */
    private static CutOnce parts() {
        CutOnce x = new CutOnce();
        x.picture(4, 2);
        int[][] shapes = {{3, -4, 0, 0, 0}, {1, 2, 3, 4, 5}, {-4, -4, -4, -4, -4}, {9, 8, 7, 5, 1}, {-1, -5, -7, -8, -9}};
        for (int side = 0; side < shapes.length; side++) {
            for (int i = 0; i < 5; i++) {
                x.bend(side, i, shapes[side][i]);
            }
        }
        return x;
    }

    private static void telling() {
        CutOnce x = parts();
        long[] due = {-1, 115, 80, -30, 30, 0, 0, 0, 0, 0};
        for (int side = 0; side < 10; side++) {
            check.due("tell(" + side + ")", x.tell(side), due[side]);
        }
        for (int side : WRONG) {
            check.due("tell(" + side + ")", x.tell(side), CutOnce.UNKNOWN);
        }
        x.bend(4, 4, -8);
        check.due("no trap any more: tell(3)", x.tell(3), 130);
        check.due("no trap any more: tell(4)", x.tell(4), 71);
    }

    private static void marking() {
        CutOnce x = parts();
        long[] due = {0, 1, 2, 99, 99, 5, 6, 7, 8, 9};
        for (int side = 0; side < 10; side++) {
            check.due("mark(" + side + ")", x.mark(side), due[side]);
        }
        for (int side : WRONG) {
            check.due("mark(" + side + ")", x.mark(side), CutOnce.UNKNOWN);
        }
    }

    private static void tracing() {
        CutOnce x = parts();
        check.due("trace()", x.trace(), 0);
        x.tell(-1);
        x.mark(10);
        check.due("trace() behind refusals", x.trace(), 0);
        x.tell(0);
        check.due("SIDE told: trace()", x.trace(), 1);
        x.tell(1);
        check.due("BULGE told: trace()", x.trace(), (31 + 2) * 31 + 1);
        x = parts();
        x.tell(3);
        check.due("TRAP told: trace()", x.trace(), 3 * 31 + 1);
        x.mark(3);
        check.due("TRAP marked: trace()", x.trace(), (3 * 31 + 1) * 31 + 5);
        x = parts();
        x.mark(0);
        check.due("SIDE marked: trace()", x.trace(), 4);
        x.mark(1);
        check.due("BULGE marked: trace()", x.trace(), 4 * 31 + 4);
        x.as(1, 1);
        x.kind(1);
        x.picture(4, 2);
        check.due("trace() stays", x.trace(), 4 * 31 + 4);
        int trace = 4 * 31 + 4;
        for (int times = 0; times < 20; times++) {
            x.tell(5);
            trace = trace * 31 + 1;
            check.due("trace() wraps", x.trace(), trace);
        }
    }

    private static void takenAs() {
        CutOnce x = parts();
        int[] kinds = {0, 1, 1, 2, 2, 0};
        for (int side = 0; side < kinds.length; side++) {
            for (int kind = 0; kind < 3; kind++) {
                boolean is = kinds[side] >= kind;
                check.due("as(" + side + ", " + kind + ")", x.as(side, kind), is ? 1 : -12);
                check.due("as(" + side + ", " + kind + "): fault()", x.fault(), is ? 0 : 2);
            }
        }
        for (int side : WRONG) {
            x.as(0, 1);
            check.due("as(" + side + ", 3): UNKNOWN comes first", x.as(side, 3), CutOnce.UNKNOWN);
            check.due("fault() behind it", x.fault(), 0);
        }
        for (int kind : new int[] {Integer.MIN_VALUE, -1, 3, Integer.MAX_VALUE}) {
            x.as(0, 1);
            check.due("as(0, " + kind + ")", x.as(0, kind), CutOnce.OUTSIDE);
            check.due("fault() behind it", x.fault(), 0);
        }
        check.due("as() leaves trace()", x.trace(), 0);
    }

    /** Each call that names faults sets fault() to 0 if it comes to none. */
    private static void faultsOfCallsThatNameThem() {
        CutOnce x = parts();
        check.due("put(3, 0, 1)", x.put(3, 0, 1), -11);
        check.due("fault()", x.fault(), 1);
        x.sheet(0, 1, 5);
        check.due("sheet: fault()", x.fault(), 0);
        x.put(0, 5, 1);
        check.due("put: fault()", x.fault(), 3);
        x.put(0, 0, 1);
        check.due("put: fault()", x.fault(), 0);
        x.cell(0, 0, 2);
        check.due("cell: fault()", x.fault(), 2);
        x.cell(0, 0, 1);
        check.due("cell: fault()", x.fault(), 0);
        x.copy(0, 0, 3, 0, 1);
        check.due("copy: fault()", x.fault(), 1);
        x.copy(0, 0, 0, 1, 1);
        check.due("copy: fault()", x.fault(), 0);
        x.shape(0, 1, 0, -1, 0);
        check.due("shape: fault()", x.fault(), 4);
        x.shape(0, 1, 0, 1, 0);
        check.due("shape: fault()", x.fault(), 0);
        x.as(5, 1);
        check.due("as: fault()", x.fault(), 2);
        x.as(5, 0);
        check.due("as: fault()", x.fault(), 0);
    }

    /** Calls that name no fault leave fault(), refused or not. */
    private static void faultsStay() {
        CutOnce x = parts();
        x.sheet(0, 0, -1);
        x.picture(3, 3);
        x.picture(9, 9);
        x.make(1);
        x.bend(0, 0, 1);
        x.bend(0, 0, 11);
        x.height(0, 0);
        x.sideOf(0, 0);
        x.edge(0, 0, 0);
        x.far(0, 0, 0, 0);
        x.kind(0);
        x.unlike();
        x.traps(1);
        x.alike(0, 1, 1);
        x.lay(0, 0);
        x.heap(1);
        x.take(0);
        x.heaped(0, 0);
        x.missing(0);
        x.missed(0, 0);
        x.ways();
        x.join();
        x.joined(0, 0);
        x.trials();
        x.known(0);
        x.lose(0);
        x.lose(9);
        x.tell(0);
        x.tell(99);
        x.mark(0);
        x.trace();
        x.told(0);
        check.due("fault() stays", x.fault(), 4);
        check.due("fault() stays behind fault()", x.fault(), 4);
    }

    private static void told() {
        CutOnce x = new CutOnce();
        x.picture(4, 3);
        x.lay(1, 1);
        x.lay(1, 1);
        long[] due = {4, 3, 12, 17, 2};
        for (int what = 0; what < 5; what++) {
            check.due("told(" + what + ")", x.told(what), due[what]);
        }
        for (int what : new int[] {Integer.MIN_VALUE, -1, 5, 6, Integer.MAX_VALUE}) {
            check.due("told(" + what + ")", x.told(what), CutOnce.OUTSIDE);
        }
    }
}
