import java.util.Random;

/** Promises 5, 10, 11, 13 and 14: join, size, far, value, unit. */
final class RingTest {
    public static void main(String[] args) {
        for (int kind = 0; kind < 2; kind++) {
            sums(kind);
            products(kind);
            greatestProducts(kind);
            sameRegisters(kind);
            sizes(kind);
            distances(kind);
            values(kind);
            units(kind);
        }
        splitFactors();
        Check.end("RingTest");
    }

    private static void sums(int kind) {
        int q = Check.Q[kind];
        NoiseRing x = Check.ring(kind);
        Check.fill(x, 0, 1, q - 1, (q - 1) / 2, 0, 5);
        Check.fill(x, 1, 2, 1, 1, 3, q - 5);
        Check.same("a + b", x.join(2, 0, 0, 1), (q - 1) / 2);
        Check.row("a + b", x, 2, 3, 0, (q + 1) / 2, 3, 0);
        Check.same("a - b", x.join(2, 1, 0, 1), (q - 1) / 2 - 1);
        Check.row("a - b", x, 2, q - 1, q - 2, (q - 1) / 2 - 1, q - 3, 10);
        Check.row("a stays", x, 0, 1, q - 1, (q - 1) / 2, 0, 5);
        Check.row("b stays", x, 1, 2, 1, 1, 3, q - 5);
    }

    private static void products(int kind) {
        int q = Check.Q[kind];
        for (int i = 0; i < 16; i++) {
            for (int j = 0; j < 16; j++) {
                NoiseRing x = Check.ring(kind);
                x.set(0, i, 2);
                x.set(1, j, 3);
                long[] due = new long[16];
                due[(i + j) % 16] = i + j < 16 ? 6 : q - 6;
                Check.same("2x^" + i + " 3x^" + j, x.join(2, 2, 0, 1), 6);
                Check.row("2x^" + i + " 3x^" + j, x, 2, due);
            }
        }
    }

    private static void greatestProducts(int kind) {
        NoiseRing x = Check.ring(kind);
        int q = Check.Q[kind];
        for (int i = 0; i < 16; i++) {
            x.set(0, i, -1);
        }
        x.join(1, 2, 0, 0);
        for (int i = 0; i < 16; i++) {
            Check.same("all -1, squared, " + i, x.get(1, i), Math.floorMod(2 * i - 14, q));
        }
        Check.same("all -1, squared: size", x.size(1), 16);
    }

    private static void sameRegisters(int kind) {
        int q = Check.Q[kind];
        NoiseRing x = Check.ring(kind);
        Check.fill(x, 0, 1, 2, 3);
        x.join(0, 2, 0, 0);
        Check.row("a times a into a", x, 0, 1, 4, 10, 12, 9);
        Check.fill(x, 1, 0, 1);
        x.join(1, 2, 0, 1);
        Check.row("a times b into b", x, 1, 0, 1, 4, 10, 12, 9);
        x.join(0, 0, 0, 1);
        Check.row("a + b into a", x, 0, 1, 5, 14, 22, 21, 9);
        x.join(1, 1, 0, 1);
        Check.row("a - b into b", x, 1, 1, 4, 10, 12, 9);
        Check.same("a - a into a", x.join(1, 1, 1, 1), 0);
        Check.row("a - a into a", x, 1);
        x.join(2, 1, 1, 0);
        Check.row("0 - a", x, 2, q - 1, q - 5, q - 14, q - 22, q - 21, q - 9);
    }

    private static void sizes(int kind) {
        int q = Check.Q[kind];
        NoiseRing x = Check.ring(kind);
        Check.same("size of 0", x.size(11), 0);
        x.set(11, 15, q - 1);
        Check.same("size of -1", x.size(11), 1);
        x.set(11, 0, 2);
        Check.same("size of 2 and -1", x.size(11), 2);
        x.set(11, 8, (q - 1) / 2);
        Check.same("size of (Q - 1) / 2", x.size(11), (q - 1) / 2);
        x.set(11, 8, (q + 1) / 2);
        Check.same("size of (Q + 1) / 2", x.size(11), (q - 1) / 2);
        x.set(11, 8, (q + 3) / 2);
        Check.same("size of (Q + 3) / 2", x.size(11), (q - 3) / 2);
        Check.same("size changes nothing", x.get(11, 8), (q + 3) / 2);
    }

    private static void distances(int kind) {
        int q = Check.Q[kind];
        NoiseRing x = Check.ring(kind);
        Check.same("far of 0 and 0", x.far(0, 1), 0);
        Check.fill(x, 0, 1, 0, q - 1, 5);
        Check.fill(x, 1, q - 1, 7, 1, 5);
        Check.same("far(0, 1)", x.far(0, 1), 2 + 7 + 2);
        Check.same("far(1, 0)", x.far(1, 0), 2 + 7 + 2);
        Check.same("far(0, 0)", x.far(0, 0), 0);
        for (int i = 0; i < 16; i++) {
            x.set(2, i, (q + 1) / 2);
        }
        Check.same("the greatest distance", x.far(2, 3), 16L * ((q - 1) / 2));
        Check.row("far changes nothing", x, 0, 1, 0, q - 1, 5);
        Check.row("far changes nothing", x, 1, q - 1, 7, 1, 5);
    }

    private static void values(int kind) {
        Random random = new Random(13 + kind);
        for (int round = 0; round < 20; round++) {
            NoiseRing x = Check.ring(kind);
            long[] a = new long[16];
            for (int i = 0; i < 16; i++) {
                a[i] = random.nextInt(Check.Q[kind]);
                x.set(7, i, (int) a[i]);
            }
            for (int i = 0; i < 16; i++) {
                Check.same("value(7, " + i + ")", x.value(7, i), Model.value(kind, a, i));
            }
        }
        NoiseRing x = Check.ring(kind);
        x.set(0, kind == 0 ? 2 : 1, 1);
        Check.same("z is at 0", x.value(0, 0), x.count(2));
        long z = x.count(2);
        Check.same("z^3 comes next", x.value(0, kind == 0 ? 2 : 1), z * z % Check.Q[kind] * z % Check.Q[kind]);
    }

    private static void units(int kind) {
        NoiseRing x = Check.ring(kind);
        Check.no("0 is no unit", x.unit(0));
        for (int i = 0; i < 16; i++) {
            Check.fill(x, 0);
            x.set(0, i, 5);
            Check.yes("5x^" + i + " is a unit", x.unit(0));
        }
        Random random = new Random(14 + kind);
        long zero = Model.power(kind == 0 ? 17 : 1753, kind == 0 ? 8 : 16, Check.Q[kind]);
        for (int i = 0; i < 16; i++) {
            NoiseRing y = Check.ring(kind);
            y.set(0, 0, (int) -Model.power(zero, 2 * i + 1, Check.Q[kind]));
            y.set(0, 1, 1);
            Check.no("x less a zero of x^16 + 1 is no unit", y.unit(0));
            for (int j = 0; j < 16; j++) {
                y.set(1, j, random.nextInt(Check.Q[kind]));
            }
            y.join(2, 2, 0, 1);
            Check.no("a multiple of it is none either", y.unit(2));
            y.set(2, i, y.get(2, i) + 1);
            Check.yes("one more somewhere is a unit", y.unit(2));
        }
    }

    /** x^2 - z falls into two factors over 3,329: a rest that is not 0 does not yet make a unit. */
    private static void splitFactors() {
        NoiseRing x = Check.ring(0);
        long root = Model.power(17, 8, 3329);
        Check.same("the root of z", root * root % 3329, x.count(2));
        x.set(0, 0, (int) root);
        x.set(0, 1, 1);
        for (int i = 0; i < 16; i++) {
            Check.yes("no value of x + root is 0", x.value(0, i) != 0);
        }
        Check.no("x + root is no unit", x.unit(0));
    }
}
