import java.util.NoSuchElementException;

/**
 * Twelve registers of polynomials modulo x^16 + 1 and one of two primes, with the roundings, parts,
 * hints, small chance polynomials and distances that schemes of lattices use.
 */
public final class NoiseRing {
    private static final int REGISTERS = 12;
    private static final int LENGTH = 16;

    private static final int[] MODULUS = {3329, 8380417};
    private static final int[] MOST_BITS = {11, 22};
    private static final int[] BASE_ROOT = {17, 1753};
    private static final int Z_EXPONENT = 16;
    // These powers of the base roots have -1 as their 16th power in both kinds, so that their odd
    // powers are all the zeros of x^16 + 1.
    private static final int[] ZERO_EXPONENT = {8, 16};

    private static final int JOIN_PLUS = 0;
    private static final int JOIN_MINUS = 1;
    private static final int JOIN_TIMES = 2;

    private static final int ROUND_FEWER = 0;
    private static final int ROUND_MORE = 1;
    private static final int ROUND_LOW = 2;
    private static final int ROUND_HIGH = 3;

    private static final int GREATEST_ETA = 3;
    private static final int WORD_BITS = 64;

    private final int[][] registers;
    // A product is built here, since the register it goes to may be one of its factors.
    private final int[] work;
    private int kind;
    private int q;
    private int z;

    public NoiseRing() {
        registers = new int[REGISTERS][LENGTH];
        work = new int[LENGTH];
        takeKind(0);
    }

    public int begin(int kind) throws IllegalArgumentException {
        needArgument(kind >= 0 && kind < MODULUS.length);
        takeKind(kind);
        for (int r = 0; r < REGISTERS; r++) {
            for (int i = 0; i < LENGTH; i++) {
                registers[r][i] = 0;
            }
        }
        return q;
    }

    public int set(int r, int i, int v) throws NoSuchElementException {
        needRegister(r);
        needPlace(i);
        int before = registers[r][i];
        registers[r][i] = Math.floorMod(v, q);
        return before;
    }

    public int get(int r, int i) throws NoSuchElementException {
        needRegister(r);
        needPlace(i);
        return registers[r][i];
    }

    public int join(int to, int op, int a, int b) throws NoSuchElementException, IllegalArgumentException {
        needRegister(to);
        needRegister(a);
        needRegister(b);
        needArgument(op >= JOIN_PLUS && op <= JOIN_TIMES);
        for (int i = 0; i < LENGTH; i++) {
            work[i] = joined(op, registers[a], registers[b], i);
        }
        System.arraycopy(work, 0, registers[to], 0, LENGTH);
        return greatestSize(registers[to]);
    }

    public int round(int to, int op, int a, int d) throws NoSuchElementException, IllegalArgumentException {
        needRegister(to);
        needRegister(a);
        needArgument(op >= ROUND_FEWER && op <= ROUND_HIGH);
        needArgument(d >= 1 && d <= MOST_BITS[kind]);
        for (int i = 0; i < LENGTH; i++) {
            registers[to][i] = rounded(op, registers[a][i], d);
        }
        return notZero(registers[to]);
    }

    public int part(int to, int a, int alpha, boolean high)
            throws NoSuchElementException, IllegalArgumentException {
        needRegister(to);
        needRegister(a);
        needArgument(isAlpha(alpha));
        for (int i = 0; i < LENGTH; i++) {
            int x = registers[a][i];
            registers[to][i] = high ? partOf(x, alpha) : Math.floorMod(restOf(x, alpha), q);
        }
        return notZero(registers[to]);
    }

    public int hint(int to, int a, int b, int alpha) throws NoSuchElementException, IllegalArgumentException {
        needRegister(to);
        needRegister(a);
        needRegister(b);
        needArgument(isAlpha(alpha));
        for (int i = 0; i < LENGTH; i++) {
            int x = registers[a][i];
            int both = (x + registers[b][i]) % q;
            registers[to][i] = partOf(x, alpha) != partOf(both, alpha) ? 1 : 0;
        }
        return notZero(registers[to]);
    }

    public int use(int to, int a, int b, int alpha) throws NoSuchElementException, IllegalArgumentException {
        needRegister(to);
        needRegister(a);
        needRegister(b);
        needArgument(isAlpha(alpha));
        int changed = 0;
        for (int i = 0; i < LENGTH; i++) {
            int x = registers[a][i];
            int plain = partOf(x, alpha);
            int hinted = registers[b][i] != 0 ? movedPart(x, alpha) : plain;
            // With ALPHA Q - 1 there is one part alone, and a hint leaves it what it was.
            if (hinted != plain) {
                changed++;
            }
            registers[to][i] = hinted;
        }
        return changed;
    }

    public int size(int a) throws NoSuchElementException {
        needRegister(a);
        return greatestSize(registers[a]);
    }

    public int far(int a, int b) throws NoSuchElementException {
        needRegister(a);
        needRegister(b);
        int sum = 0;
        for (int i = 0; i < LENGTH; i++) {
            sum += centredSize(Math.floorMod(registers[a][i] - registers[b][i], q));
        }
        return sum;
    }

    public int noise(int to, int eta, long low, long high)
            throws NoSuchElementException, IllegalArgumentException {
        needRegister(to);
        needArgument(eta >= 1 && eta <= GREATEST_ETA);
        for (int i = 0; i < LENGTH; i++) {
            int first = 2 * eta * i;
            int more = ones(first, eta, low, high);
            int less = ones(first + eta, eta, low, high);
            registers[to][i] = Math.floorMod(more - less, q);
        }
        return notZero(registers[to]);
    }

    public int value(int a, int i) throws NoSuchElementException {
        needRegister(a);
        needPlace(i);
        if (kind == 0) {
            // The rest by x^2 - c has the even coefficients taken at c, and the odd ones behind them.
            return valueAt(registers[a], i % 2, 2, power(z, 2 * (i / 2) + 1));
        }
        return valueAt(registers[a], 0, 1, power(z, 2 * i + 1));
    }

    public boolean unit(int a) throws NoSuchElementException {
        needRegister(a);
        int zero = power(BASE_ROOT[kind], ZERO_EXPONENT[kind]);
        for (int i = 0; i < LENGTH; i++) {
            if (valueAt(registers[a], 0, 1, power(zero, 2 * i + 1)) == 0) {
                return false;
            }
        }
        return true;
    }

    public int count(int what) {
        switch (what) {
            case 0:
                return kind;
            case 1:
                return q;
            case 2:
                return z;
            case 3:
                return emptyRegisters();
            default:
                return -1;
        }
    }

    private static void needRegister(int r) {
        if (r < 0 || r >= REGISTERS) {
            throw new NoSuchElementException("no such register");
        }
    }

    private static void needPlace(int i) {
        if (i < 0 || i >= LENGTH) {
            throw new NoSuchElementException("no such coefficient");
        }
    }

    private static void needArgument(boolean good) {
        if (!good) {
            throw new IllegalArgumentException("an argument that can't be");
        }
    }

    private void takeKind(int newKind) {
        kind = newKind;
        q = MODULUS[newKind];
        z = power(BASE_ROOT[newKind], Z_EXPONENT);
    }

    private int power(int base, int exponent) {
        long product = 1;
        for (int i = 0; i < exponent; i++) {
            product = product * base % q;
        }
        return (int) product;
    }

    private int joined(int op, int[] a, int[] b, int i) {
        switch (op) {
            case JOIN_PLUS:
                return (a[i] + b[i]) % q;
            case JOIN_MINUS:
                return Math.floorMod(a[i] - b[i], q);
            default:
                return productAt(a, b, i);
        }
    }

    private int productAt(int[] a, int[] b, int place) {
        // Sixteen products of numbers below 2^23 stay far inside a long, so one reduction is enough.
        long sum = 0;
        for (int i = 0; i <= place; i++) {
            sum += (long) a[i] * b[place - i];
        }
        for (int i = place + 1; i < LENGTH; i++) {
            sum -= (long) a[i] * b[LENGTH + place - i];
        }
        return (int) Math.floorMod(sum, (long) q);
    }

    private int centredSize(int x) {
        return Math.min(x, q - x);
    }

    private int greatestSize(int[] row) {
        int greatest = 0;
        for (int i = 0; i < LENGTH; i++) {
            greatest = Math.max(greatest, centredSize(row[i]));
        }
        return greatest;
    }

    private static int notZero(int[] row) {
        int found = 0;
        for (int i = 0; i < LENGTH; i++) {
            if (row[i] != 0) {
                found++;
            }
        }
        return found;
    }

    private int emptyRegisters() {
        int found = 0;
        for (int r = 0; r < REGISTERS; r++) {
            if (notZero(registers[r]) == 0) {
                found++;
            }
        }
        return found;
    }

    private int rounded(int op, int x, int d) {
        switch (op) {
            case ROUND_FEWER:
                return fewerBits(x, d);
            case ROUND_MORE:
                return moreBits(x & lowMask(d), d);
            case ROUND_LOW:
                return Math.floorMod(lowBits(x, d), q);
            default:
                return (x - lowBits(x, d)) >> d;
        }
    }

    private static int lowMask(int d) {
        return (1 << d) - 1;
    }

    private int fewerBits(int x, int d) {
        // Twice the fraction and one, halved by the division: a half goes upwards.
        long nearest = (((long) x << (d + 1)) + q) / (2L * q);
        return (int) nearest & lowMask(d);
    }

    private int moreBits(int y, int d) {
        return (int) (((long) q * y + (1L << (d - 1))) >> d);
    }

    private static int lowBits(int x, int d) {
        int y = x & lowMask(d);
        return y > (1 << (d - 1)) ? y - (1 << d) : y;
    }

    private boolean isAlpha(int alpha) {
        return alpha > 0 && alpha % 2 == 0 && (q - 1) % alpha == 0;
    }

    private static int nearRest(int x, int alpha) {
        int y = x % alpha;
        return y > alpha / 2 ? y - alpha : y;
    }

    private int restOf(int x, int alpha) {
        int y = nearRest(x, alpha);
        return x - y == q - 1 ? y - 1 : y;
    }

    private int partOf(int x, int alpha) {
        int above = x - nearRest(x, alpha);
        return above == q - 1 ? 0 : above / alpha;
    }

    private int movedPart(int x, int alpha) {
        int step = restOf(x, alpha) > 0 ? 1 : -1;
        return Math.floorMod(partOf(x, alpha) + step, (q - 1) / alpha);
    }

    private static int ones(int first, int many, long low, long high) {
        int found = 0;
        for (int i = first; i < first + many; i++) {
            // A shift by i takes i modulo 64, so bit 64 on are high's bits from 0 on.
            long word = i < WORD_BITS ? low : high;
            found += (int) ((word >>> i) & 1L);
        }
        return found;
    }

    private int valueAt(int[] row, int first, int step, int point) {
        long sum = 0;
        long factor = 1;
        for (int i = first; i < LENGTH; i += step) {
            sum = (sum + row[i] * factor) % q;
            factor = factor * point % q;
        }
        return (int) sum;
    }
}
