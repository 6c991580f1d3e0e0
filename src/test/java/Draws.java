import java.math.BigInteger;

/** Seeds that bring about a DRAW that is wanted. */
final class Draws {
    private static final BigInteger ROUND = BigInteger.TWO.pow(64);
    private static final BigInteger TIMES = new BigInteger("6364136223846793005");
    private static final BigInteger MORE = new BigInteger("1442695040888963407");

    private Draws() {
    }

    /** The seed that THE DRAW becomes this number of at the first time. */
    static long seedFor(long draw) {
        return BigInteger.valueOf(draw).subtract(MORE).multiply(TIMES.modInverse(ROUND)).longValue();
    }

    /** What THE DRAW becomes, from a seed on, at the time told (1: the first). */
    static BigInteger drawAt(long seed, int time) {
        BigInteger draw = BigInteger.valueOf(seed);
        for (int i = 0; i < time; i++) {
            draw = PlainCutOnce.nextDraw(draw);
        }
        return draw;
    }
}
