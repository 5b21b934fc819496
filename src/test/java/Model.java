import java.math.BigInteger;

/** The document's terms in their slowest and plainest form, for the tests to hold the class against. */
final class Model {
    private Model() {
    }

    static long power(long base, int exponent, long q) {
        return BigInteger.valueOf(base).modPow(BigInteger.valueOf(exponent), BigInteger.valueOf(q)).longValue();
    }

    static long z(int kind) {
        return power(kind == 0 ? 17 : 1753, 16, Check.Q[kind]);
    }

    static long size(int kind, long x) {
        long q = Check.Q[kind];
        long y = Math.floorMod(x, q);
        return Math.abs(y > (q - 1) / 2 ? y - q : y);
    }

    /** The nearest whole number to up / down, a half upwards. */
    static BigInteger nearest(BigInteger up, BigInteger down) {
        BigInteger[] both = up.divideAndRemainder(down);
        boolean more = both[1].shiftLeft(1).compareTo(down) >= 0;
        return more ? both[0].add(BigInteger.ONE) : both[0];
    }

    /** The y, the same as x modulo m, with -m / 2 < y and y not above m / 2. */
    static long near(long x, long m) {
        long y = x;
        while (2 * y > m) {
            y -= m;
        }
        return y;
    }

    static long rounded(int kind, int op, long x, int d) {
        BigInteger q = BigInteger.valueOf(Check.Q[kind]);
        BigInteger full = BigInteger.TWO.pow(d);
        BigInteger big = BigInteger.valueOf(x);
        switch (op) {
            case 0:
                return nearest(full.multiply(big), q).mod(full).longValue();
            case 1:
                return nearest(q.multiply(big.mod(full)), full).longValue();
            case 2:
                return Math.floorMod(near(x, 1L << d), (long) Check.Q[kind]);
            default:
                return (x - near(x, 1L << d)) / (1L << d);
        }
    }

    static long[] partAndRest(int kind, long x, long alpha) {
        long y = near(x, alpha);
        if (x - y == Check.Q[kind] - 1) {
            return new long[] {0, y - 1};
        }
        return new long[] {(x - y) / alpha, y};
    }

    /** The product, with x^16 replaced by -1 term by term. */
    static long[] times(int kind, long[] a, long[] b) {
        long q = Check.Q[kind];
        long[] all = new long[31];
        for (int i = 0; i < 16; i++) {
            for (int j = 0; j < 16; j++) {
                all[i + j] = (all[i + j] + a[i] * b[j]) % q;
            }
        }
        long[] rest = new long[16];
        for (int i = 0; i < 16; i++) {
            rest[i] = Math.floorMod(all[i] - (i < 15 ? all[i + 16] : 0), q);
        }
        return rest;
    }

    static long value(int kind, long[] a, int i) {
        long q = Check.Q[kind];
        if (kind == 0) {
            long c = power(z(0), 2 * (i / 2) + 1, q);
            long[] rest = a.clone();
            for (int k = 15; k >= 2; k--) {
                rest[k - 2] = (rest[k - 2] + rest[k] * c) % q;
            }
            return rest[i % 2];
        }
        long point = power(z(1), 2 * i + 1, q);
        long sum = 0;
        for (int k = 15; k >= 0; k--) {
            sum = (sum * point + a[k]) % q;
        }
        return sum;
    }

    /** Whether the equations for some b with a b = 1 have an answer: whether their matrix has full rank. */
    static boolean unit(int kind, long[] a) {
        long q = Check.Q[kind];
        long[][] m = new long[16][];
        for (int j = 0; j < 16; j++) {
            long[] shift = new long[16];
            shift[j] = 1;
            m[j] = times(kind, a, shift);
        }
        for (int column = 0; column < 16; column++) {
            int pivot = column;
            while (pivot < 16 && m[pivot][column] == 0) {
                pivot++;
            }
            if (pivot == 16) {
                return false;
            }
            long[] row = m[pivot];
            m[pivot] = m[column];
            m[column] = row;
            long inverse = BigInteger.valueOf(row[column]).modInverse(BigInteger.valueOf(q)).longValue();
            for (int k = column + 1; k < 16; k++) {
                long factor = m[k][column] * inverse % q;
                for (int j = column; j < 16; j++) {
                    m[k][j] = Math.floorMod(m[k][j] - factor * row[j], q);
                }
            }
        }
        return true;
    }
}
