import java.util.LinkedHashMap;
import java.util.Map;

/** States to make calls in, and all that can be read of an object. */
final class State {
    static final int MOST = Integer.MAX_VALUE;
    static final int LEAST = Integer.MIN_VALUE;
    /** For a call that names no FAULTS: fault() tells what it told before. */
    static final int STAYS = -1;

    /** The heights of full(). */
    static final int[][] SHAPES = {
        {3, -4, 0, 0, 9}, {1, 2, 3, 4, 5}, {9, 8, 7, 5, 1}, {-1, -5, -7, -8, -9}, {0, 0, 0, 0, -3}, {-2, -2, -2, -2, -6}, {6, 0, 0, 0, 0}};

    private State() {
    }

    interface Maker {
        CutOnce made();
    }

    interface Call {
        long on(CutOnce x);
    }

    /**
     * 3 by 2, all of its sides of other heights (2 and 3 are traps, 1 and 5 bulges), a heap of seven with 4 twice,
     * a way found, a trace, six bytes, twelve shorts (the last is no height), three ints, and nothing in sheet 3.
     */
    static CutOnce full() {
        CutOnce x = new CutOnce();
        x.picture(3, 2);
        for (int side = 0; side < SHAPES.length; side++) {
            bend(x, side, SHAPES[side]);
        }
        x.heap(8);
        x.lay(4, 1);
        x.join();
        x.sheet(0, 0, 6);
        x.put(0, 0, 10);
        x.put(0, 5, -10);
        x.sheet(1, 1, 12);
        for (int i = 0; i < 11; i++) {
            x.put(1, i, i - 4);
        }
        x.put(1, 11, 10);
        x.sheet(2, 2, 3);
        x.put(2, 2, MOST);
        x.tell(1);
        x.mark(3);
        return x;
    }

    /** A heap of 25, a way found. */
    static CutOnce fullHeap() {
        CutOnce x = new CutOnce();
        x.picture(2, 2);
        for (int i = 0; i < 25; i++) {
            x.lay(i % 4, i % 3);
        }
        x.join();
        x.tell(0);
        return x;
    }

    static CutOnce picture(int w, int h) {
        CutOnce x = new CutOnce();
        x.picture(w, h);
        return x;
    }

    static CutOnce made(int w, int h, long seed) {
        CutOnce x = picture(w, h);
        x.make(seed);
        return x;
    }

    static void bend(CutOnce x, int side, int... heights) {
        for (int i = 0; i < heights.length; i++) {
            x.bend(side, i, heights[i]);
        }
    }

    /** A heap of these pieces, none of them turned. */
    static void lay(CutOnce x, int... pieces) {
        for (int p : pieces) {
            x.lay(p, 0);
        }
    }

    /** All that can be read, with the answers; it leaves all as it is, but fault(), which it reads first. */
    static Map<String, Long> reading(CutOnce x) {
        Map<String, Long> all = new LinkedHashMap<>();
        all.put("fault()", (long) x.fault());
        for (int what = 0; what < 5; what++) {
            all.put("told(" + what + ")", (long) x.told(what));
        }
        all.put("trials()", (long) x.trials());
        all.put("trace()", (long) x.trace());
        int sides = x.told(3);
        int pieces = x.told(2);
        int heaped = x.told(4);
        for (int side = 0; side < sides; side++) {
            for (int i = 0; i < 5; i++) {
                all.put("height(" + side + ", " + i + ")", x.height(side, i));
            }
        }
        for (int what = 0; what < 2; what++) {
            for (int i = 0; i < heaped; i++) {
                all.put("heaped(" + i + ", " + what + ")", (long) x.heaped(i, what));
            }
            for (int place = 0; place < pieces; place++) {
                all.put("joined(" + place + ", " + what + ")", (long) x.joined(place, what));
            }
        }
        for (int k = 0; k < 4; k++) {
            for (int lane = 0; lane < 3; lane++) {
                readRow(all, x, k, lane);
            }
        }
        return all;
    }

    /** Up to the fault that tells where the row ends, that it is of another lane, or that there is nothing. */
    private static void readRow(Map<String, Long> all, CutOnce x, int k, int lane) {
        for (int i = 0; i <= 50; i++) {
            String call = "cell(" + k + ", " + i + ", " + lane + ")";
            long cell = x.cell(k, i, lane);
            all.put(call, cell);
            if (cell == CutOnce.LOST) {
                all.put(call + ": fault()", (long) x.fault());
                return;
            }
        }
    }

    /**
     * A refused call, or one that comes to a fault, told from a twin without it: it answers as is due, fault() tells what
     * is due, whatever it told ahead of it, and all else that can be read is as it was.
     */
    static void refused(Check check, Maker maker, String name, Call call, long answer, int fault) {
        for (int ahead : new int[] {1, 4}) {
            CutOnce x = faultedBy(maker.made(), ahead);
            CutOnce twin = faultedBy(maker.made(), ahead);
            check.due(name, call.on(x), answer);
            Map<String, Long> got = reading(x);
            Map<String, Long> want = reading(twin);
            check.due("fault() of the twin of " + name, want.get("fault()"), ahead);
            if (fault != STAYS) {
                want.put("fault()", (long) fault);
            }
            check.same("behind " + name, got, want);
        }
    }

    /** A call that only asks leaves each thing as it is: each is read ahead of anything else that reading() asks. */
    static void untouched(Check check, String name, Call call) {
        Call[] reads = {
            x -> x.trace(), x -> x.trials(), x -> x.fault(), x -> x.told(0), x -> x.told(4), x -> x.height(1, 4), x -> x.height(6, 0),
            x -> x.heaped(0, 0), x -> x.heaped(6, 1), x -> x.joined(0, 0), x -> x.joined(5, 1),
            x -> x.cell(0, 5, 0), x -> x.cell(1, 11, 1), x -> x.cell(2, 2, 2), x -> x.lose(3)};
        for (int i = 0; i < reads.length; i++) {
            CutOnce x = faultedBy(full(), 4);
            long first = call.on(x);
            check.due(name + " asked again", call.on(x), first);
            check.due(name + " leaves what is read as number " + i, reads[i].on(x), reads[i].on(faultedBy(full(), 4)));
        }
        CutOnce x = faultedBy(full(), 4);
        call.on(x);
        check.same("behind " + name, reading(x), reading(faultedBy(full(), 4)));
    }

    private static CutOnce faultedBy(CutOnce x, int fault) {
        if (fault == 1) {
            x.put(3, 0, 0);
        } else {
            x.sheet(3, 0, -1);
        }
        return x;
    }
}
