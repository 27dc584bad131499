import java.lang.reflect.Field;
import java.math.BigInteger;

/**
 * The proof that sizes tell the higher of two NOTES exactly, for EXPONENTS up to 65536.
 *
 * Let L(i) be the whole number that PRIME i has in the program's table, and V(e) the sum of e(i) L(i).
 * 1. L(i) is the logarithm of PRIME i to the base 2, times 2^120, rounded down. So V(e) differs from
 *    the true logarithm times 2^120 by less than the sum of the |e(i)|: by less than 6 * 65536.
 * 2. The vectors (S e(0), .., S e(5), V(e)) are a lattice. No vector of a lattice but 0 is shorter than
 *    the shortest of the vectors that Gram and Schmidt make of any of its bases. BASIS is one of them;
 *    so S^2 * 6 * 65536^2 + V(e)^2 is not less than that length squared, unless e is 0.
 * 3. The |V(e)| that follows is above the 6 * 65536 of 1: V(e) has the sign of the true logarithm.
 */
public final class LogsTest {
    private static final int BITS = 120;
    private static final int FAR = 65536;
    private static final BigInteger SCALE = BigInteger.ONE.shiftLeft(14);
    private static final int[] PRIMES = {2, 3, 5, 7, 11, 13};
    private static final int[][] BASIS = {
        {173794, -23517, -167043, 41743, 50783, -11222},
        {-40965, 5642, -94461, 94225, -35365, 29503},
        {214081, -121386, 139637, 34733, -56641, -66878},
        {-3288, -251062, -78930, 147849, -48180, 90825},
        {-171069, 104414, 68864, 185546, 7425, -189410},
        {29604, 8487, -146745, 222725, -239646, 135510},
    };
    private static final Check CHECK = new Check();

    public static void main(String[] args) throws ReflectiveOperationException {
        BigInteger[] logs = programLogs();
        for (int prime = 0; prime < 6; prime++) {
            CHECK.holds("the logarithm of " + PRIMES[prime], logs[prime].equals(logarithm(PRIMES[prime])));
        }
        proveGap(logs);
        proveReach();
        CHECK.end();
    }

    private static BigInteger[] programLogs() throws ReflectiveOperationException {
        Field field = Class.forName("TuningTables$Note").getDeclaredField("LOGS");
        field.setAccessible(true);
        long[] limbs = (long[]) field.get(null);
        BigInteger[] logs = new BigInteger[6];
        for (int prime = 0; prime < 6; prime++) {
            logs[prime] = BigInteger.valueOf(limbs[3 * prime]).shiftLeft(40)
                .add(BigInteger.valueOf(limbs[3 * prime + 1])).shiftLeft(40)
                .add(BigInteger.valueOf(limbs[3 * prime + 2]));
        }
        return logs;
    }

    /** Bit by bit by squaring, between bounds of 600 bits that must agree on every bit. */
    private static BigInteger logarithm(int prime) {
        int width = 600;
        int whole = 31 - Integer.numberOfLeadingZeros(prime);
        BigInteger below = BigInteger.valueOf(prime).shiftLeft(width - whole);
        BigInteger above = below;
        BigInteger log = BigInteger.valueOf(whole);
        for (int bit = 0; bit < BITS; bit++) {
            below = below.multiply(below).shiftRight(width);
            above = above.multiply(above).shiftRight(width).add(BigInteger.ONE);
            log = log.shiftLeft(1);
            boolean isSet = below.bitLength() > width + 1;
            CHECK.holds("bit " + bit + " is sure", prime == 2 || isSet == above.bitLength() > width + 1);
            if (isSet) {
                log = log.setBit(0);
                below = below.shiftRight(1);
                above = above.shiftRight(1).add(BigInteger.ONE);
            }
        }
        return log;
    }

    private static void proveGap(BigInteger[] logs) {
        BigInteger[][] change = new BigInteger[6][6];
        BigInteger[][] vectors = new BigInteger[6][7];
        for (int row = 0; row < 6; row++) {
            vectors[row][6] = BigInteger.ZERO;
            for (int prime = 0; prime < 6; prime++) {
                change[row][prime] = BigInteger.valueOf(BASIS[row][prime]);
                vectors[row][prime] = change[row][prime].multiply(SCALE);
                vectors[row][6] = vectors[row][6].add(change[row][prime].multiply(logs[prime]));
            }
        }
        CHECK.holds("BASIS is a basis", determinant(change, 6).abs().equals(BigInteger.ONE));

        BigInteger needed = BigInteger.ONE.shiftLeft(31);
        BigInteger bound = SCALE.pow(2).multiply(BigInteger.valueOf(6)).multiply(BigInteger.valueOf(FAR).pow(2)).add(needed.pow(2));
        CHECK.holds("the size is above its error", needed.compareTo(BigInteger.valueOf(6L * FAR)) > 0);
        // the square of vector k of Gram and Schmidt is the k-th Gram determinant by the one before
        BigInteger before = BigInteger.ONE;
        for (int k = 1; k <= 6; k++) {
            BigInteger gram = determinant(products(vectors), k);
            CHECK.holds("vector " + k + " is long", gram.compareTo(bound.multiply(before)) > 0);
            before = gram;
        }
    }

    private static BigInteger[][] products(BigInteger[][] vectors) {
        BigInteger[][] products = new BigInteger[6][6];
        for (int a = 0; a < 6; a++) {
            for (int b = 0; b < 6; b++) {
                products[a][b] = BigInteger.ZERO;
                for (int at = 0; at < 7; at++) {
                    products[a][b] = products[a][b].add(vectors[a][at].multiply(vectors[b][at]));
                }
            }
        }
        return products;
    }

    /** Of the first rows and columns, by the first column. */
    private static BigInteger determinant(BigInteger[][] matrix, int size) {
        if (size == 0) {
            return BigInteger.ONE;
        }
        BigInteger sum = BigInteger.ZERO;
        for (int row = 0; row < size; row++) {
            BigInteger[][] rest = new BigInteger[size - 1][size - 1];
            for (int other = 0; other < size - 1; other++) {
                System.arraycopy(matrix[other < row ? other : other + 1], 1, rest[other], 0, size - 1);
            }
            BigInteger part = matrix[row][0].multiply(determinant(rest, size - 1));
            sum = row % 2 == 0 ? sum.add(part) : sum.subtract(part);
        }
        return sum;
    }

    /** No EXPONENT that the program weighs is above 65536: the longest are those of DEGREES. */
    private static void proveReach() {
        double link = 0;
        for (int prime : PRIMES) {
            link += 2 * Math.log(prime);
        }
        for (int period = 2; period <= 13; period++) {
            int mostOfAPrime = 0;
            for (int prime : PRIMES) {
                int times = 0;
                for (int rest = period; rest % prime == 0; rest /= prime) {
                    times++;
                }
                mostOfAPrime = Math.max(mostOfAPrime, times);
            }
            double periods = 23 * link / Math.log(period) + 1;
            double step = 23 * 2 + periods * mostOfAPrime;
            CHECK.holds("a STEP of a CHAIN in " + period, step < 740);
            CHECK.holds("a DEGREE in " + period, 2 * 36 * step + (2 * 36 * 20 + 3) * mostOfAPrime < FAR);
        }
    }
}
