import java.math.BigInteger;
import java.util.ArrayList;
import java.util.List;

/**
 * The document once more, as plainly as its words go and with all of Java: pieces that carry their edges, kinds that
 * are classes, sheets that are arrays of their lane, whose faults the machine itself finds. RandomRunsTest compares it with CutOnce.
 */
final class PlainCutOnce {
    private static final int UNKNOWN = -1, OUTSIDE = -2, STATE = -3, FULL = -4, SPENT = -6, NONE = -9;
    private static final long LOST = Long.MIN_VALUE;
    private static final BigInteger TIMES = new BigInteger("6364136223846793005");
    private static final BigInteger MORE = new BigInteger("1442695040888963407");

    /** A side with the pieces that it lies between. */
    private static final class Between {
        final int less;
        final int greater;
        final boolean across;
        int[] shape = new int[5];

        Between(int less, int greater, boolean across) {
            this.less = less;
            this.greater = greater;
            this.across = across;
        }
    }

    private interface Markable {
        default int marked(PlainCutOnce of, int side) {
            of.begin(4);
            return side;
        }
    }

    private static class SideKind implements Markable {
        int told(PlainCutOnce of, int[] shape) {
            of.begin(1);
            int sum = 0;
            for (int height : shape) {
                sum += height;
            }
            return sum;
        }
    }

    private static class BulgeKind extends SideKind {
        @Override
        int told(PlainCutOnce of, int[] shape) {
            of.begin(2);
            return super.told(of, shape) + 100;
        }

        final int toldAsSide(PlainCutOnce of, int[] shape) {
            return super.told(of, shape);
        }
    }

    private static final class TrapKind extends BulgeKind {
        @Override
        int told(PlainCutOnce of, int[] shape) {
            of.begin(3);
            return -toldAsSide(of, shape);
        }

        @Override
        public int marked(PlainCutOnce of, int side) {
            of.begin(5);
            return 99;
        }
    }

    private int w = 1;
    private int h = 1;
    private List<Between> sides = new ArrayList<>();
    private final List<int[]> heap = new ArrayList<>();
    private final Object[] sheets = new Object[4];
    private List<int[]> way;
    private int trials;
    private int trace;
    private int fault;

    static BigInteger nextDraw(BigInteger draw) {
        return BigInteger.valueOf(draw.multiply(TIMES).add(MORE).longValue());
    }

    static int numberBelow(BigInteger draw, int n) {
        return draw.mod(BigInteger.TWO.pow(31)).divide(BigInteger.valueOf(4096)).mod(BigInteger.valueOf(n)).intValue();
    }

    // ---- 1

    int picture(int wide, int high) {
        if (wide < 1 || wide > 5 || high < 1 || high > 5) {
            return OUTSIDE;
        }
        w = wide;
        h = high;
        sides = new ArrayList<>();
        for (int y = 0; y < h; y++) {
            for (int x = 0; x + 1 < w; x++) {
                sides.add(new Between(w * y + x, w * y + x + 1, true));
            }
        }
        for (int y = 0; y + 1 < h; y++) {
            for (int x = 0; x < w; x++) {
                sides.add(new Between(w * y + x, w * y + x + w, false));
            }
        }
        heap.clear();
        way = null;
        return sides.size();
    }

    int make(long seed) {
        BigInteger draw = BigInteger.valueOf(seed);
        for (Between side : sides) {
            for (int i = 0; i < 5; i++) {
                draw = nextDraw(draw);
                side.shape[i] = numberBelow(draw, 19) - 9;
            }
        }
        way = null;
        return 1;
    }

    long bend(int side, int i, int v) {
        if (noSide(side) || i < 0 || i > 4 || v < -9 || v > 9) {
            return LOST;
        }
        int was = sides.get(side).shape[i];
        sides.get(side).shape[i] = v;
        way = null;
        return was;
    }

    long height(int side, int i) {
        return noSide(side) || i < 0 || i > 4 ? LOST : sides.get(side).shape[i];
    }

    int shape(int k, int lane, int i, int n, int s) {
        fault = 0;
        if (noSheet(k) || noSide(s)) {
            return UNKNOWN;
        }
        if (lane < 0 || lane > 2) {
            return OUTSIDE;
        }
        try {
            int[] row = taken(k, lane);
            int there = row.length;
            int[][] shapes = new int[Math.min(n, 50)][];
            if (i < 0 || i > there) {
                throw new IndexOutOfBoundsException();
            }
            for (int c = 0; c < n; c++) {
                sides.get(s + c);
                shapes[c] = new int[] {row[i + 5 * c], row[i + 5 * c + 1], row[i + 5 * c + 2], row[i + 5 * c + 3], row[i + 5 * c + 4]};
            }
            for (int[] shape : shapes) {
                for (int height : shape) {
                    if (height < -9 || height > 9) {
                        return OUTSIDE;
                    }
                }
            }
            for (int c = 0; c < n; c++) {
                sides.get(s + c).shape = shapes[c];
            }
            way = null;
            return n;
        } catch (RuntimeException thrown) {
            return faulty(thrown);
        }
    }

    int sideOf(int p, int e) {
        if (noPiece(p) || e < 0 || e > 3) {
            return UNKNOWN;
        }
        for (int side = 0; side < sides.size(); side++) {
            Between b = sides.get(side);
            boolean right = e == 1 && b.across && b.less == p;
            boolean left = e == 3 && b.across && b.greater == p;
            boolean below = e == 2 && !b.across && b.less == p;
            boolean above = e == 0 && !b.across && b.greater == p;
            if (right || left || below || above) {
                return side;
            }
        }
        return NONE;
    }

    /** The heights of an edge as one goes round; null: it is flat. */
    private int[] heightsOf(int p, int e) {
        int side = sideOf(p, e);
        if (side == NONE) {
            return null;
        }
        int[] shape = sides.get(side).shape;
        return e == 1 || e == 2 ? shape.clone() : turnedAbout(shape);
    }

    private static int[] turnedAbout(int[] shape) {
        return new int[] {-shape[4], -shape[3], -shape[2], -shape[1], -shape[0]};
    }

    long edge(int p, int e, int i) {
        if (noPiece(p) || e < 0 || e > 3 || i < 0 || i > 4 || heightsOf(p, e) == null) {
            return LOST;
        }
        return heightsOf(p, e)[i];
    }

    int far(int p, int e, int q, int f) {
        if (noPiece(p) || e < 0 || e > 3 || noPiece(q) || f < 0 || f > 3) {
            return UNKNOWN;
        }
        int[] a = heightsOf(p, e);
        int[] b = heightsOf(q, f);
        if (a == null || b == null) {
            return STATE;
        }
        int sum = 0;
        int[] round = turnedAbout(b);
        for (int i = 0; i < 5; i++) {
            sum += Math.max(a[i] - round[i], round[i] - a[i]);
        }
        return sum;
    }

    // ---- 2

    private SideKind kindAt(int side) {
        int[] shape = sides.get(side).shape;
        boolean out = true;
        boolean in = true;
        for (int height : shape) {
            out &= height > 0;
            in &= height < 0;
        }
        if (!out && !in) {
            return new SideKind();
        }
        for (int other = 0; other < sides.size(); other++) {
            int[] its = sides.get(other).shape;
            if (other != side && (java.util.Arrays.equals(its, shape) || java.util.Arrays.equals(turnedAbout(its), shape))) {
                return new TrapKind();
            }
        }
        return new BulgeKind();
    }

    int kind(int side) {
        if (noSide(side)) {
            return UNKNOWN;
        }
        SideKind kind = kindAt(side);
        return kind instanceof TrapKind ? 2 : kind instanceof BulgeKind ? 1 : 0;
    }

    /** How far edges are from one another that are no mates, neither flat, of unlike pieces: each pair once. */
    private List<Integer> strangers() {
        List<Integer> all = new ArrayList<>();
        for (int p = 0; p < w * h; p++) {
            for (int q = 0; q < p; q++) {
                for (int e = 0; e < 4; e++) {
                    for (int f = 0; f < 4; f++) {
                        if (sideOf(p, e) != NONE && sideOf(q, f) != NONE && sideOf(p, e) != sideOf(q, f)) {
                            all.add(far(p, e, q, f));
                        }
                    }
                }
            }
        }
        return all;
    }

    int unlike() {
        return strangers().stream().mapToInt(Integer::intValue).min().orElse(STATE);
    }

    int traps(int d) {
        return d < 0 ? OUTSIDE : (int) strangers().stream().filter(far -> far <= d).count();
    }

    int alike(int a, int b, int turned) {
        if (noSide(a) || noSide(b)) {
            return UNKNOWN;
        }
        if (turned != 0 && turned != 1) {
            return OUTSIDE;
        }
        if (a == b) {
            return STATE;
        }
        int[] shape = sides.get(b).shape;
        int[] becomes = turned == 0 ? shape.clone() : turnedAbout(shape);
        int others = 0;
        for (int i = 0; i < 5; i++) {
            others += becomes[i] == sides.get(a).shape[i] ? 0 : 1;
        }
        sides.get(a).shape = becomes;
        way = null;
        return others;
    }

    // ---- 3

    int lay(int p, int turn) {
        if (noPiece(p)) {
            return UNKNOWN;
        }
        if (turn < 0 || turn > 3) {
            return OUTSIDE;
        }
        if (heap.size() == 25) {
            return FULL;
        }
        heap.add(new int[] {p, turn});
        way = null;
        return heap.size();
    }

    int heap(long seed) {
        BigInteger draw = BigInteger.valueOf(seed);
        heap.clear();
        for (int p = 0; p < w * h; p++) {
            heap.add(new int[] {p, 0});
        }
        for (int i = w * h - 1; i > 0; i--) {
            draw = nextDraw(draw);
            java.util.Collections.swap(heap, i, numberBelow(draw, i + 1));
        }
        for (int[] one : heap) {
            draw = nextDraw(draw);
            one[1] = numberBelow(draw, 4);
        }
        way = null;
        return heap.size();
    }

    int take(int i) {
        if (i < 0 || i >= heap.size()) {
            return UNKNOWN;
        }
        way = null;
        return heap.remove(i)[0];
    }

    int heaped(int i, int what) {
        if (i < 0 || i >= heap.size()) {
            return UNKNOWN;
        }
        return what == 0 || what == 1 ? heap.get(i)[what] : OUTSIDE;
    }

    private List<Integer> missingOnes(int what) {
        List<Integer> all = new ArrayList<>();
        for (int p = 0; p < w * h; p++) {
            int piece = p;
            long times = heap.stream().filter(one -> one[0] == piece).count();
            if (what == 0 && times == 0 || what == 1 && times > 1) {
                all.add(p);
            }
        }
        return all;
    }

    int missing(int what) {
        return what == 0 || what == 1 ? missingOnes(what).size() : OUTSIDE;
    }

    int missed(int what, int i) {
        if (i < 0) {
            return UNKNOWN;
        }
        if (what != 0 && what != 1) {
            return OUTSIDE;
        }
        return i >= missing(what) ? UNKNOWN : missingOnes(what).get(i);
    }

    private static final class Spent extends Exception {
        private static final long serialVersionUID = 1;
    }

    /** The ways, each a row of places of the heap with turns further; at most so many as are wanted. */
    private List<List<int[]>> search(int wanted) throws Spent {
        trials = 0;
        List<List<int[]>> all = new ArrayList<>();
        goOn(new ArrayList<>(), all, wanted);
        return all;
    }

    private void goOn(List<int[]> laid, List<List<int[]>> all, int wanted) throws Spent {
        int place = laid.size();
        if (place == w * h) {
            all.add(new ArrayList<>(laid));
            return;
        }
        for (int i = 0; i < heap.size(); i++) {
            for (int turn = 0; turn < 4; turn++) {
                int at = i;
                if (laid.stream().anyMatch(one -> one[0] == at)) {
                    continue;
                }
                if (trials == 60000) {
                    throw new Spent();
                }
                trials++;
                laid.add(new int[] {i, turn});
                if (fits(laid, place)) {
                    goOn(laid, all, wanted);
                }
                laid.remove(place);
                if (all.size() >= wanted) {
                    return;
                }
            }
        }
    }

    private boolean fits(List<int[]> laid, int place) {
        int x = place % w;
        int y = place / w;
        boolean[] border = {y == 0, x == w - 1, y == h - 1, x == 0};
        for (int direction = 0; direction < 4; direction++) {
            if ((shown(laid, place, direction) == null) != border[direction]) {
                return false;
            }
        }
        boolean above = y == 0 || java.util.Arrays.equals(shown(laid, place, 0), turnedAbout(shown(laid, place - w, 2)));
        boolean left = x == 0 || java.util.Arrays.equals(shown(laid, place, 3), turnedAbout(shown(laid, place - 1, 1)));
        return above && left;
    }

    private int[] shown(List<int[]> laid, int place, int direction) {
        int[] one = heap.get(laid.get(place)[0]);
        int turns = one[1] + laid.get(place)[1];
        for (int e = 0; e < 4; e++) {
            if ((e + turns) % 4 == direction) {
                return heightsOf(one[0], e);
            }
        }
        throw new IllegalStateException();
    }

    int ways() {
        try {
            return search(Integer.MAX_VALUE).size();
        } catch (Spent spent) {
            return SPENT;
        }
    }

    int join() {
        try {
            List<List<int[]>> all = search(1);
            way = all.isEmpty() ? null : all.get(0);
            return all.size();
        } catch (Spent spent) {
            return SPENT;
        }
    }

    int joined(int place, int what) {
        if (way == null) {
            return STATE;
        }
        if (place < 0 || place >= way.size()) {
            return UNKNOWN;
        }
        return what == 0 || what == 1 ? way.get(place)[what] : OUTSIDE;
    }

    int trials() {
        return trials;
    }

    int known(int p) {
        if (noPiece(p)) {
            return UNKNOWN;
        }
        List<Integer> lost = missingOnes(0);
        if (!lost.contains(p)) {
            return STATE;
        }
        int heights = 0;
        for (Between b : sides) {
            if (b.less == p && !lost.contains(b.greater) || b.greater == p && !lost.contains(b.less)) {
                heights += b.shape.length;
            }
        }
        return heights;
    }

    // ---- 4

    int sheet(int k, int lane, int n) {
        fault = 0;
        if (noSheet(k)) {
            return UNKNOWN;
        }
        if (lane < 0 || lane > 2 || n > 50) {
            return OUTSIDE;
        }
        try {
            sheets[k] = lane == 0 ? new byte[n] : lane == 1 ? new short[n] : new int[n];
            return 1;
        } catch (RuntimeException thrown) {
            return faulty(thrown);
        }
    }

    int lose(int k) {
        if (noSheet(k)) {
            return UNKNOWN;
        }
        int had = sheets[k] == null ? 0 : 1;
        sheets[k] = null;
        return had;
    }

    int put(int k, int i, int v) {
        fault = 0;
        if (noSheet(k)) {
            return UNKNOWN;
        }
        try {
            if (sheets[k] instanceof byte[]) {
                ((byte[]) sheets[k])[i] = (byte) v;
            } else if (sheets[k] instanceof short[]) {
                ((short[]) sheets[k])[i] = (short) v;
            } else {
                ((int[]) sheets[k])[i] = v;
            }
            return 1;
        } catch (RuntimeException thrown) {
            return faulty(thrown);
        }
    }

    long cell(int k, int i, int lane) {
        fault = 0;
        if (noSheet(k) || lane < 0 || lane > 2) {
            return LOST;
        }
        try {
            return taken(k, lane)[i];
        } catch (RuntimeException thrown) {
            faulty(thrown);
            return LOST;
        }
    }

    int copy(int k, int i, int other, int j, int n) {
        fault = 0;
        if (noSheet(k) || noSheet(other)) {
            return UNKNOWN;
        }
        try {
            System.arraycopy(sheets[k], i, sheets[other], j, n);
            return n;
        } catch (RuntimeException thrown) {
            return faulty(thrown);
        }
    }

    int tell(int side) {
        return noSide(side) ? UNKNOWN : kindAt(side).told(this, sides.get(side).shape);
    }

    int mark(int side) {
        return noSide(side) ? UNKNOWN : kindAt(side).marked(this, side);
    }

    int as(int side, int kind) {
        fault = 0;
        if (noSide(side)) {
            return UNKNOWN;
        }
        if (kind < 0 || kind > 2) {
            return OUTSIDE;
        }
        try {
            SideKind it = kindAt(side);
            if (kind == 1) {
                it = (BulgeKind) it;
            } else if (kind == 2) {
                it = (TrapKind) it;
            }
            return 1;
        } catch (RuntimeException thrown) {
            return faulty(thrown);
        }
    }

    int trace() {
        return trace;
    }

    int fault() {
        return fault;
    }

    int told(int what) {
        int[] all = {w, h, w * h, sides.size(), heap.size()};
        return what < 0 || what > 4 ? OUTSIDE : all[what];
    }

    // ---- shared

    private boolean noSide(int side) {
        return side < 0 || side >= sides.size();
    }

    private boolean noPiece(int p) {
        return p < 0 || p >= w * h;
    }

    private static boolean noSheet(int k) {
        return k < 0 || k > 3;
    }

    private void begin(int body) {
        trace = trace * 31 + body;
    }

    /** A sheet as a row of a lane, widened to ints. */
    private int[] taken(int k, int lane) {
        if (lane == 2) {
            return ((int[]) sheets[k]).clone();
        }
        if (lane == 1) {
            short[] shorts = (short[]) sheets[k];
            int[] row = new int[shorts.length];
            for (int i = 0; i < row.length; i++) {
                row[i] = shorts[i];
            }
            return row;
        }
        byte[] bytes = (byte[]) sheets[k];
        int[] row = new int[bytes.length];
        for (int i = 0; i < row.length; i++) {
            row[i] = bytes[i];
        }
        return row;
    }

    private int faulty(RuntimeException thrown) {
        if (thrown instanceof NullPointerException) {
            fault = 1;
        } else if (thrown instanceof ClassCastException || thrown instanceof ArrayStoreException) {
            fault = 2;
        } else if (thrown instanceof IndexOutOfBoundsException) {
            fault = 3;
        } else if (thrown instanceof NegativeArraySizeException) {
            fault = 4;
        } else {
            throw new IllegalStateException(thrown);
        }
        return -10 - fault;
    }
}
