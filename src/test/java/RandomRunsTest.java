import java.util.Random;

/** Runs of some 430 calls by fixed seeds, each answer compared with that of the document once more (PlainCutOnce). */
public final class RandomRunsTest {
    private static final Check check = new Check("RandomRunsTest");
    private static final int RUNS = 400;
    private static final int CALLS = 400;

    private final Random random;
    private final CutOnce x = new CutOnce();
    private final PlainCutOnce plain = new PlainCutOnce();
    private int spentSearches;

    private RandomRunsTest(long seed) {
        random = new Random(seed);
    }

    public static void main(String[] args) {
        for (int run = 0; run < RUNS; run++) {
            RandomRunsTest it = new RandomRunsTest(run);
            for (int call = 0; call < CALLS; call++) {
                it.callOne("run " + run + ", call " + call + ": ");
            }
        }
        check.end();
    }

    /** Mostly a number from 0 on below n, now and then one near to it, or far off. */
    private int below(int n) {
        switch (random.nextInt(16)) {
            case 0: return -1 - random.nextInt(2);
            case 1: return n + random.nextInt(2);
            case 2: return random.nextInt(8) == 0 ? (random.nextBoolean() ? Integer.MAX_VALUE : Integer.MIN_VALUE) : 0;
            default: return n < 1 ? 0 : random.nextInt(n);
        }
    }

    private int height() {
        int small = random.nextInt(3) - 1;
        return random.nextInt(3) == 0 ? below(21) - 10 : small;
    }

    private void callOne(String run) {
        int part = random.nextInt(20);
        if (part < 5) {
            pictureCall(run, random.nextInt(16));
        } else if (part < 8) {
            kindCall(run, random.nextInt(4));
        } else if (part < 14) {
            heapCall(run, random.nextInt(30));
        } else {
            sheetCall(run, random.nextInt(17));
        }
    }

    private void pictureCall(String run, int which) {
        int a = below(plain.told(3));
        int p = below(plain.told(2));
        int q = below(plain.told(2));
        int e = below(4);
        int f = below(4);
        int i = below(5);
        int v = height();
        long seed = random.nextLong();
        switch (which) {
            case 0:
                if (random.nextInt(4) == 0) {
                    int w = 1 + below(random.nextBoolean() ? 3 : 5);
                    int h = 1 + below(random.nextBoolean() ? 3 : 5);
                    check.due(run + "picture(" + w + ", " + h + ")", x.picture(w, h), plain.picture(w, h));
                }
                break;
            case 1:
                if (random.nextInt(3) == 0) {
                    check.due(run + "make(" + seed + ")", x.make(seed), plain.make(seed));
                }
                break;
            case 2, 3, 4: check.due(run + "bend(" + a + ", " + i + ", " + v + ")", x.bend(a, i, v), plain.bend(a, i, v)); break;
            case 5: bulge(run, a); break;
            case 6, 7: check.due(run + "height(" + a + ", " + i + ")", x.height(a, i), plain.height(a, i)); break;
            case 8, 9: check.due(run + "sideOf(" + p + ", " + e + ")", x.sideOf(p, e), plain.sideOf(p, e)); break;
            case 10, 11: check.due(run + "edge(" + p + ", " + e + ", " + i + ")", x.edge(p, e, i), plain.edge(p, e, i)); break;
            case 12, 13:
                check.due(run + "far(" + p + ", " + e + ", " + q + ", " + f + ")", x.far(p, e, q, f), plain.far(p, e, q, f));
                break;
            default:
                int what = below(5);
                check.due(run + "told(" + what + ")", x.told(what), plain.told(what));
                break;
        }
    }

    /** A side becomes a bulge, of few shapes, so that traps come about. */
    private void bulge(String run, int a) {
        int sign = random.nextBoolean() ? 1 : -1;
        for (int i = 0; i < 5; i++) {
            int v = sign * (1 + (random.nextInt(4) == 0 ? 1 : 0));
            check.due(run + "bend(" + a + ", " + i + ", " + v + ")", x.bend(a, i, v), plain.bend(a, i, v));
        }
    }

    private void kindCall(String run, int which) {
        int a = below(plain.told(3));
        int b = below(plain.told(3));
        int way = below(2);
        int d = random.nextInt(5) == 0 ? below(95) : below(12);
        switch (which) {
            case 0: check.due(run + "kind(" + a + ")", x.kind(a), plain.kind(a)); break;
            case 1: check.due(run + "unlike()", x.unlike(), plain.unlike()); break;
            case 2: check.due(run + "traps(" + d + ")", x.traps(d), plain.traps(d)); break;
            default: check.due(run + "alike(" + a + ", " + b + ", " + way + ")", x.alike(a, b, way), plain.alike(a, b, way)); break;
        }
    }

    private void heapCall(String run, int which) {
        int p = below(plain.told(2));
        int i = below(plain.told(4));
        int what = below(2);
        int turn = below(4);
        long seed = random.nextLong();
        switch (which) {
            case 0, 1, 2, 3, 4: check.due(run + "lay(" + p + ", " + turn + ")", x.lay(p, turn), plain.lay(p, turn)); break;
            case 5, 6: check.due(run + "heap(" + seed + ")", x.heap(seed), plain.heap(seed)); break;
            case 7: check.due(run + "take(" + i + ")", x.take(i), plain.take(i)); break;
            case 8, 9, 10: check.due(run + "heaped(" + i + ", " + what + ")", x.heaped(i, what), plain.heaped(i, what)); break;
            case 11, 12: check.due(run + "missing(" + what + ")", x.missing(what), plain.missing(what)); break;
            case 13, 14, 15: check.due(run + "missed(" + what + ", " + p + ")", x.missed(what, p), plain.missed(what, p)); break;
            case 16, 17: searched(run); break;
            case 18, 19, 20: check.due(run + "join()", x.join(), plain.join()); break;
            case 21, 22, 23, 24: check.due(run + "joined(" + p + ", " + what + ")", x.joined(p, what), plain.joined(p, what)); break;
            case 25, 26: check.due(run + "trials()", x.trials(), plain.trials()); break;
            default: check.due(run + "known(" + p + ")", x.known(p), plain.known(p)); break;
        }
    }

    private void searched(String run) {
        // the plain search is slow: few of those that come to the bound will do
        if (spentSearches < 2) {
            int ways = plain.ways();
            spentSearches += ways == CutOnce.SPENT ? 1 : 0;
            check.due(run + "ways()", x.ways(), ways);
        }
    }

    private void sheetCall(String run, int which) {
        int k = below(4);
        int other = below(4);
        int lane = below(3);
        int i = below(random.nextBoolean() ? 6 : 30);
        int j = below(random.nextBoolean() ? 6 : 30);
        int n = below(random.nextBoolean() ? 5 : 52);
        int v = random.nextInt(3) == 0 ? random.nextInt() : height();
        int a = below(plain.told(3));
        switch (which) {
            case 0, 1: check.due(run + "sheet(" + k + ", " + lane + ", " + n + ")", x.sheet(k, lane, n), plain.sheet(k, lane, n)); break;
            case 2:
                if (random.nextInt(4) == 0) {
                    check.due(run + "lose(" + k + ")", x.lose(k), plain.lose(k));
                }
                break;
            case 3, 4: check.due(run + "put(" + k + ", " + i + ", " + v + ")", x.put(k, i, v), plain.put(k, i, v)); break;
            case 5, 6, 7: check.due(run + "cell(" + k + ", " + i + ", " + lane + ")", x.cell(k, i, lane), plain.cell(k, i, lane)); break;
            case 8, 9:
                check.due(run + "copy(" + k + ", " + i + ", " + other + ", " + j + ", " + n + ")",
                    x.copy(k, i, other, j, n), plain.copy(k, i, other, j, n));
                break;
            case 10, 11:
                int few = below(3);
                check.due(run + "shape(" + k + ", " + lane + ", " + i + ", " + few + ", " + a + ")",
                    x.shape(k, lane, i, few, a), plain.shape(k, lane, i, few, a));
                break;
            case 12: check.due(run + "tell(" + a + ")", x.tell(a), plain.tell(a)); break;
            case 13: check.due(run + "mark(" + a + ")", x.mark(a), plain.mark(a)); break;
            case 14: check.due(run + "as(" + a + ", " + lane + ")", x.as(a, lane), plain.as(a, lane)); break;
            case 15: check.due(run + "trace()", x.trace(), plain.trace()); break;
            default: check.due(run + "fault()", x.fault(), plain.fault()); break;
        }
    }
}
