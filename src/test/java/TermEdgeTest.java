import java.util.ArrayList;
import java.util.Arrays;
import java.util.List;

/** The boundary cases that the document's Terms name, sentence by sentence. */
final class TermEdgeTest {
    private static final List<Long> xs = new ArrayList<>();
    private static final List<Long> dues = new ArrayList<>();

    public static void main(String[] args) {
        Check.sentence("used for at most 512 calls", TermEdgeTest::lastCall);
        Check.sentence("KIND 0: Q 3,329; KIND 1: Q 8,380,417; 0 at first", TermEdgeTest::kinds);
        for (int kind = 0; kind < 2; kind++) {
            int k = kind;
            Check.sentence("16 coefficients", () -> places(k));
            Check.sentence("coefficients 0 .. Q - 1", () -> coefficients(k));
            Check.sentence("of x^0 first", () -> firstPlace(k));
            Check.sentence("products modulo x^16 + 1", () -> wrappedProducts(k));
            Check.sentence("products modulo Q", () -> greatestProducts(k));
            Check.sentence("CENTRED: from -(Q - 1) / 2 to (Q - 1) / 2", () -> centred(k));
            Check.sentence("its 8th (KIND 1: 16th) power is -1", () -> powers(k));
            Check.sentence("REGISTERS 0 .. 11 hold a POLYNOMIAL each, 0 at first", () -> registers(k));
            Check.sentence("FEWER: rounded, modulo 2^d", () -> fewer(k));
            Check.sentence("MORE: rounded (a half upwards)", () -> more(k));
            Check.sentence("MORE (x modulo 2^d, d)", () -> moreOfRest(k));
            Check.sentence("LOW: -2^(d - 1) < y and y not above 2^(d - 1)", () -> low(k));
            Check.sentence("HIGH: (x - LOW) / 2^d", () -> high(k));
            Check.sentence("an ALPHA, an even divisor of Q - 1", () -> alphas(k));
            Check.sentence("-ALPHA / 2 < y and y not above ALPHA / 2", () -> rests(k));
            Check.sentence("PART (x): (x - y) / ALPHA", () -> parts(k));
            Check.sentence("if x - y is Q - 1, PART is 0 and REST one less", () -> topParts(k));
            Check.sentence("d (1 .. 11; for KIND 1: 1 .. 22)", () -> widths(k));
        }
        Check.sentence("LOW and HIGH of Q - 1", TermEdgeTest::lowAndHighOfTheLast);
        Check.sentence("d goes with the KIND that is", TermEdgeTest::widthsAfterBegin);
        Check.sentence("ALPHA goes with the KIND that is", TermEdgeTest::alphasAfterBegin);
        Check.end("TermEdgeTest");
    }

    private static void due(long x, long answer) {
        xs.add(x);
        dues.add(answer);
    }

    private static void ask(String what, int kind, Check.Shape shape) {
        long[] x = xs.stream().mapToLong(Long::longValue).toArray();
        long[] answers = dues.stream().mapToLong(Long::longValue).toArray();
        xs.clear();
        dues.clear();
        Check.each(what, kind, x, answers, shape);
    }

    private static void lastCall() {
        NoiseRing x = new NoiseRing();
        x.set(0, 15, 3);
        for (int call = 2; call <= 510; call++) {
            Check.same("call " + call, x.get(0, 15), 3);
        }
        Check.same("call 511", x.join(1, 2, 0, 0), 9);
        Check.same("call 512", x.get(1, 14), 3329 - 9);
    }

    private static void kinds() {
        NoiseRing x = new NoiseRing();
        Check.same("KIND at first", x.count(0), 0);
        Check.same("Q at first", x.count(1), 3329);
        Check.same("begin(0)", x.begin(0), 3329);
        Check.same("begin(1)", x.begin(1), 8380417);
        Check.illegal("begin(2)", () -> x.begin(2));
        Check.illegal("begin(-1)", () -> x.begin(-1));
        Check.same("KIND after those", x.count(0), 1);
        Check.same("Q after those", x.count(1), 8380417);
        Check.same("back to KIND 0", x.begin(0), 3329);
        Check.illegal("begin(2) in KIND 0", () -> x.begin(2));
        Check.illegal("begin(-1) in KIND 0", () -> x.begin(-1));
        Check.same("KIND after those", x.count(0), 0);
        Check.same("Q after those", x.count(1), 3329);
    }

    private static void places(int kind) {
        NoiseRing x = Check.ring(kind);
        for (int i = 0; i < 16; i++) {
            Check.same("set(0, " + i + ")", x.set(0, i, i + 1), 0);
        }
        Check.noSuch("set(0, -1)", () -> x.set(0, -1, 7));
        Check.noSuch("set(0, 16)", () -> x.set(0, 16, 7));
        Check.noSuch("get(0, -1)", () -> x.get(0, -1));
        Check.noSuch("get(0, 16)", () -> x.get(0, 16));
        Check.row("all 16", x, 0, 1, 2, 3, 4, 5, 6, 7, 8, 9, 10, 11, 12, 13, 14, 15, 16);
        Check.same("no other register", x.count(3), 11);
    }

    private static void coefficients(int kind) {
        int q = Check.Q[kind];
        NoiseRing x = Check.ring(kind);
        int[] v = {0, q - 1, q, q + 1, -1, 1 - q, -q, -q - 1, 2 * q - 1, 2 * q, Integer.MAX_VALUE, Integer.MIN_VALUE};
        long most = kind == 0 ? 2340 : 2096895;
        long least = kind == 0 ? 988 : 6283521;
        long[] due = {0, q - 1, 0, 1, q - 1, 1, 0, q - 1, q - 1, 0, most, least};
        Check.fill(x, 0, v);
        Check.row("what was set", x, 0, due);
        Check.fill(x, 1, q - 1, q - 1, q - 2, 0, (q - 1) / 2, (q + 1) / 2);
        Check.fill(x, 2, 1, q - 1, 1, 0, (q + 1) / 2, (q + 1) / 2);
        Check.same("a + b", x.join(3, 0, 1, 2), 2);
        Check.row("a + b", x, 3, 0, q - 2, q - 1, 0, 0, 1);
        Check.fill(x, 1, 0, 0, 1, q - 1, q - 1);
        Check.fill(x, 2, 1, q - 1, 2, 0, q - 1);
        Check.same("a - b", x.join(3, 1, 1, 2), 1);
        Check.row("a - b", x, 3, q - 1, 1, q - 1, q - 1, 0);
    }

    private static void firstPlace(int kind) {
        NoiseRing x = Check.ring(kind);
        Check.fill(x, 0, 1);
        Check.fill(x, 1, 1, 2, 3, 4, 5, 6, 7, 8, 9, 10, 11, 12, 13, 14, 15, 16);
        x.join(2, 2, 0, 1);
        Check.same("1 times a is a", x.far(1, 2), 0);
        Check.fill(x, 0, 0, 1);
        x.join(2, 2, 0, 1);
        Check.row("x times a", x, 2, -16 + Check.Q[kind], 1, 2, 3, 4, 5, 6, 7, 8, 9, 10, 11, 12, 13, 14, 15);
    }

    private static void wrappedProducts(int kind) {
        int q = Check.Q[kind];
        int[][] powers = {{15, 0, 15, 1}, {14, 1, 15, 1}, {8, 7, 15, 1}, {15, 1, 0, -1}, {8, 8, 0, -1},
            {1, 15, 0, -1}, {15, 2, 1, -1}, {15, 15, 14, -1}, {0, 0, 0, 1}};
        for (int[] p : powers) {
            NoiseRing x = Check.ring(kind);
            x.set(0, p[0], 1);
            x.set(1, p[1], 1);
            long[] due = new long[16];
            due[p[2]] = Math.floorMod(p[3], q);
            Check.same("x^" + p[0] + " x^" + p[1], x.join(2, 2, 0, 1), 1);
            Check.row("x^" + p[0] + " x^" + p[1], x, 2, due);
        }
    }

    /** Sixteen of the greatest products in one coefficient, all with one sign or all but one with the other. */
    private static void greatestProducts(int kind) {
        int q = Check.Q[kind];
        NoiseRing x = Check.ring(kind);
        x.set(0, 0, q - 1);
        x.join(1, 2, 0, 0);
        Check.row("(Q - 1)^2", x, 1, 1);
        for (int i = 0; i < 16; i++) {
            x.set(2, i, q - 1);
            x.set(3, i, (q - 1) / 2);
        }
        Check.same("(Q - 1) (1 + x + ..), squared", x.join(4, 2, 2, 2), 16);
        Check.same("its first coefficient", x.get(4, 0), q - 14);
        Check.same("its last coefficient", x.get(4, 15), 16);
        Check.same("-1 times -1 / 2, all over", x.join(4, 2, 2, 3), 8);
        Check.same("its first coefficient", x.get(4, 0), q - 7);
        Check.same("its last coefficient", x.get(4, 15), 8);
    }

    private static void centred(int kind) {
        int q = Check.Q[kind];
        int half = (q - 1) / 2;
        int[] v = {0, 1, half - 1, half, half + 1, half + 2, q - 2, q - 1};
        int[] due = {0, 1, half - 1, half, half, half - 1, 2, 1};
        NoiseRing x = Check.ring(kind);
        for (int k = 0; k < v.length; k++) {
            x.set(0, 9, v[k]);
            Check.same("size of " + v[k], x.size(0), due[k]);
            Check.same("far of " + v[k] + " and 0", x.far(0, 1), due[k]);
            Check.same("far of 0 and " + v[k], x.far(1, 0), due[k]);
            Check.same("join of " + v[k] + " and 0", x.join(2, 0, 0, 1), due[k]);
        }
    }

    private static void powers(int kind) {
        NoiseRing x = Check.ring(kind);
        long q = Check.Q[kind];
        Check.same("z", x.count(2), kind == 0 ? 2642 : 7778734);
        int last = kind == 0 ? 8 : 16;
        long power = 1;
        for (int e = 1; e <= last; e++) {
            power = power * x.count(2) % q;
            Check.yes("z^" + e + " is -1 at " + last + " first", (power == q - 1) == (e == last));
        }
    }

    private static void registers(int kind) {
        NoiseRing x = Check.ring(kind);
        Check.same("all are 0 at first", x.count(3), 12);
        for (int r = 0; r < 12; r++) {
            Check.same("set(" + r + ", 0)", x.set(r, 0, r + 1), 0);
            Check.same("set(" + r + ", 15)", x.set(r, 15, r + 101), 0);
        }
        Check.noSuch("set(-1, 0)", () -> x.set(-1, 0, 7));
        Check.noSuch("set(12, 0)", () -> x.set(12, 0, 7));
        Check.noSuch("get(-1, 0)", () -> x.get(-1, 0));
        Check.noSuch("get(12, 0)", () -> x.get(12, 0));
        for (int r = 0; r < 12; r++) {
            Check.row("register " + r, x, r, r + 1, 0, 0, 0, 0, 0, 0, 0, 0, 0, 0, 0, 0, 0, 0, r + 101);
        }
    }

    /** All of them for small d, else the outermost and the middle ones. */
    private static long[] someBelow(long full) {
        if (full <= 64) {
            long[] all = new long[(int) full];
            Arrays.setAll(all, k -> k);
            return all;
        }
        return new long[] {0, 1, 2, full / 4, full / 2 - 2, full / 2 - 1, full / 2, full / 2 + 1,
            full - full / 4, full - 3, full - 2, full - 1};
    }

    /** Q is odd, so 2^d x / Q is never a half: below a half and above it are the edges, and 2^d itself is 0. */
    private static void fewer(int kind) {
        long q = Check.Q[kind];
        for (int d = 1; d <= Check.mostBits(kind); d++) {
            long full = 1L << d;
            due(0, 0);
            due(q - 1, 2 * full < q ? 0 : full - 1);
            for (long k : someBelow(full)) {
                long first = ((2 * k + 1) * q + 2 * full - 1) / (2 * full);
                due(first - 1, k);
                if (first < q) {
                    due(first, (k + 1) % full);
                }
            }
            int bits = d;
            ask("FEWER, d " + d, kind, (x, to) -> x.round(to, 0, 0, bits));
        }
    }

    private static void more(int kind) {
        long q = Check.Q[kind];
        for (int d = 1; d <= Check.mostBits(kind); d++) {
            long full = 1L << d;
            due(full / 2, (q + 1) / 2);
            for (long y : someBelow(full)) {
                long m = q * y / full;
                // The m with m - 1/2 not above Q y / 2^d, and that below m + 1/2.
                boolean upwards = (2 * m + 1) * full <= 2 * q * y;
                due(y, upwards ? m + 1 : m);
            }
            int bits = d;
            ask("MORE, d " + d, kind, (x, to) -> x.round(to, 1, 0, bits));
        }
    }

    private static void moreOfRest(int kind) {
        long q = Check.Q[kind];
        for (int d = 1; d <= Check.mostBits(kind); d++) {
            long full = 1L << d;
            due(full, 0);
            due(full + full / 2, (q + 1) / 2);
            due(full + 1, (2 * q + full) / (2 * full));
            due(1, (2 * q + full) / (2 * full));
            due((q - 1) / full * full, 0);
            int bits = d;
            ask("MORE, d " + d, kind, (x, to) -> x.round(to, 1, 0, bits));
        }
    }

    private static void low(int kind) {
        long q = Check.Q[kind];
        for (int d = 1; d <= Check.mostBits(kind); d++) {
            long full = 1L << d;
            long half = full / 2;
            for (long k : new long[] {0, 1, (q - 1) / full - 1}) {
                due(k * full, 0);
                due(k * full + half, half);
                due(k * full + half + 1, 1 - half);
                if (k * full + full < q) {
                    due(k * full + full - 1, d == 1 ? 1 : -1);
                }
            }
            int bits = d;
            ask("LOW, d " + d, kind, (x, to) -> x.round(to, 2, 0, bits));
        }
    }

    private static void high(int kind) {
        long q = Check.Q[kind];
        for (int d = 1; d <= Check.mostBits(kind); d++) {
            long full = 1L << d;
            long half = full / 2;
            for (long k : new long[] {0, 1, (q - 1) / full - 1}) {
                due(k * full, k);
                due(k * full + half, k);
                due(k * full + half + 1, k + 1);
                if (k * full + full < q) {
                    due(k * full + full - 1, d == 1 ? k : k + 1);
                }
            }
            int bits = d;
            ask("HIGH, d " + d, kind, (x, to) -> x.round(to, 3, 0, bits));
        }
    }

    /** 3,328 is 13 times 2^8 and 8,380,416 is 1,023 times 2^13: with one bit more, LOW is just 2^(d - 1). */
    private static void lowAndHighOfTheLast() {
        int[][] due = {{0, 1, 0, 1664}, {0, 8, 0, 13}, {0, 9, 256, 6}, {0, 10, 256, 3}, {0, 11, -768, 2},
            {1, 1, 0, 4190208}, {1, 13, 0, 1023}, {1, 14, 8192, 511}, {1, 15, -8192, 256}, {1, 22, -8192, 2}};
        for (int[] row : due) {
            long last = Check.Q[row[0]] - 1;
            due(last, row[2]);
            ask("LOW, d " + row[1], row[0], (x, to) -> x.round(to, 2, 0, row[1]));
            due(last, row[3]);
            ask("HIGH, d " + row[1], row[0], (x, to) -> x.round(to, 3, 0, row[1]));
        }
    }

    private static void widths(int kind) {
        int most = Check.mostBits(kind);
        NoiseRing x = Check.ring(kind);
        x.set(0, 0, 1);
        for (int op = 0; op < 4; op++) {
            int each = op;
            for (int d = 1; d <= most; d++) {
                int bits = d;
                Check.goes("round, op " + op + ", d " + d, () -> x.round(1, each, 0, bits));
            }
            x.round(1, 2, 0, most);
            Check.illegal("round, op " + op + ", d 0", () -> x.round(1, each, 0, 0));
            Check.illegal("round, op " + op + ", d " + (most + 1), () -> x.round(1, each, 0, most + 1));
            Check.row("what was refused changes nothing", x, 1, 1);
        }
    }

    private static void widthsAfterBegin() {
        NoiseRing x = new NoiseRing();
        Check.goes("d 11 of a new object", () -> x.round(0, 0, 0, 11));
        Check.illegal("d 12 of a new object", () -> x.round(0, 0, 0, 12));
        x.begin(1);
        Check.goes("d 12 in KIND 1", () -> x.round(0, 0, 0, 12));
        Check.goes("d 22 in KIND 1", () -> x.round(0, 0, 0, 22));
        Check.illegal("d 23 in KIND 1", () -> x.round(0, 0, 0, 23));
        x.begin(0);
        Check.goes("d 11 in KIND 0 again", () -> x.round(0, 0, 0, 11));
        Check.illegal("d 12 in KIND 0 again", () -> x.round(0, 0, 0, 12));
        x.begin(1);
        Check.illegal("begin(2)", () -> x.begin(2));
        Check.goes("d 22 after a refused begin", () -> x.round(0, 0, 0, 22));
    }

    private static void alphas(int kind) {
        int q = Check.Q[kind];
        List<Integer> good = Check.alphas(kind);
        Check.same("how many there are", good.size(), kind == 0 ? 16 : 104);
        for (int alpha : good) {
            alpha(kind, alpha, true);
            alpha(kind, -alpha, false);
            alpha(kind, alpha - 1, false);
            alpha(kind, alpha + 1, false);
            alpha(kind, q + alpha, false);
        }
        int most = kind == 0 ? 2 * q : 3000;
        for (int alpha = -3; alpha <= most; alpha++) {
            alpha(kind, alpha, good.contains(alpha));
        }
        for (int k = 1; k <= 3000; k++) {
            alpha(kind, (q - 1) / k, good.contains((q - 1) / k));
        }
        alpha(kind, Integer.MIN_VALUE, false);
        alpha(kind, Integer.MAX_VALUE, false);
    }

    private static void alpha(int kind, int alpha, boolean good) {
        NoiseRing x = Check.ring(kind);
        x.set(1, 1, 1);
        Check.Call[] calls = {() -> x.part(1, 0, alpha, true), () -> x.part(1, 0, alpha, false),
            () -> x.hint(1, 0, 0, alpha), () -> x.use(1, 0, 2, alpha)};
        for (int k = 0; k < calls.length; k++) {
            String what = "call " + k + " with ALPHA " + alpha;
            if (good) {
                x.set(1, 1, 1);
                Check.same(what, calls[k].answer(), 0);
                Check.same(what + " writes", x.get(1, 1), 0);
            } else {
                Check.illegal(what, calls[k]);
                Check.same(what + " changes nothing", x.get(1, 1), 1);
            }
        }
    }

    private static void alphasAfterBegin() {
        NoiseRing x = new NoiseRing();
        Check.goes("3328 in KIND 0", () -> x.part(0, 0, 3328, true));
        Check.illegal("190464 in KIND 0", () -> x.part(0, 0, 190464, true));
        x.begin(1);
        Check.illegal("3328 in KIND 1", () -> x.part(0, 0, 3328, true));
        Check.goes("190464 in KIND 1", () -> x.part(0, 0, 190464, true));
        x.begin(0);
        Check.goes("3328 in KIND 0 again", () -> x.part(0, 0, 3328, true));
        Check.illegal("190464 in KIND 0 again", () -> x.part(0, 0, 190464, true));
    }

    private static void rests(int kind) {
        long q = Check.Q[kind];
        for (int alpha : Check.alphas(kind)) {
            long half = alpha / 2;
            long parts = (q - 1) / alpha;
            for (long k : new long[] {0, Math.min(1, parts - 1), parts - 1}) {
                due(k * alpha, 0);
                due(k * alpha + 1, 1);
                due(k * alpha + half, half);
                if (k < parts - 1) {
                    due(k * alpha + half + 1, 1 - half);
                    due(k * alpha + alpha - 1, alpha == 2 ? 1 : -1);
                }
            }
            ask("REST, ALPHA " + alpha, kind, (x, to) -> x.part(to, 0, alpha, false));
        }
    }

    private static void parts(int kind) {
        long q = Check.Q[kind];
        for (int alpha : Check.alphas(kind)) {
            long half = alpha / 2;
            long parts = (q - 1) / alpha;
            for (long k : new long[] {0, Math.min(1, parts - 1), parts - 1}) {
                due(k * alpha, k);
                due(k * alpha + half, k);
                if (k < parts - 1) {
                    due(k * alpha + half + 1, k + 1);
                    due(k * alpha + alpha, k + 1);
                }
            }
            ask("PART, ALPHA " + alpha, kind, (x, to) -> x.part(to, 0, alpha, true));
        }
    }

    /** The last x before, the first, and Q - 1 itself, the last. */
    private static void topParts(int kind) {
        long q = Check.Q[kind];
        for (int alpha : Check.alphas(kind)) {
            long half = alpha / 2;
            due(q - 1 - half, (q - 1) / alpha - 1);
            due(q - half, 0);
            due(q - 1, 0);
            ask("PART, ALPHA " + alpha, kind, (x, to) -> x.part(to, 0, alpha, true));
            due(q - 1 - half, half);
            due(q - half, -half);
            due(q - 1, -1);
            ask("REST, ALPHA " + alpha, kind, (x, to) -> x.part(to, 0, alpha, false));
        }
    }
}
