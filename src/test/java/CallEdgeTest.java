/** The boundary cases that promises 1 to 15 name, sentence by sentence. */
final class CallEdgeTest {
    public static void main(String[] args) {
        Check.sentence("NoiseRing(): KIND 0", CallEdgeTest::newObject);
        for (int kind = 0; kind < 2; kind++) {
            int k = kind;
            Check.sentence("begin: another KIND, all REGISTERS 0: Q", () -> begin(k));
            Check.sentence("set: becomes v (modulo Q): what it was", () -> set(k));
            Check.sentence("get: coefficient i", () -> get(k));
            Check.sentence("join: op 0: a + b, 1: a - b, 2: a b", () -> joinOps(k));
            Check.sentence("join: the greatest size of a coefficient of it", () -> joinSizes(k));
            Check.sentence("round: op 0, 1, 2, 3", () -> roundOps(k));
            Check.sentence("round: how many are not 0", () -> roundCounts(k));
            Check.sentence("part: high: PART (x), else REST (x) modulo Q: how many are not 0", () -> partCounts(k));
            Check.sentence("hint: PART of both together (modulo Q)", () -> hintEdges(k));
            Check.sentence("hint: how many are 1", () -> hintCounts(k));
            Check.sentence("use: one more if REST (x) is above 0, else one less, modulo (Q - 1) / ALPHA",
                () -> useEdges(k));
            Check.sentence("use: where b's is not 0", () -> useHints(k));
            Check.sentence("use: how many were changed", () -> useCounts(k));
            Check.sentence("size: the greatest size of a coefficient, CENTRED", () -> size(k));
            Check.sentence("far: the sizes of all coefficients of a - b together", () -> far(k));
            Check.sentence("noise: eta 1, 2 or 3", () -> etas(k));
            Check.sentence("noise: bits of low, the lowest first, then those of high", () -> lastBits(k));
            Check.sentence("noise: how many are 1, less how many, modulo Q", () -> noiseExtremes(k));
            Check.sentence("value: i 0 .. 15", () -> valuePlaces(k));
            Check.sentence("value: what a is there", () -> valueExtremes(k));
            Check.sentence("unit: 0 nowhere", () -> unit(k));
            Check.sentence("count: REGISTERS that are 0", () -> countRegisters(k));
            Check.sentence("count: else -1", () -> countElse(k));
            Check.sentence("to may be a or b", () -> sameRegisters(k));
        }
        Check.sentence("value: j being i / 2, cut off", CallEdgeTest::valuePairs);
        Check.sentence("unit: some POLYNOMIAL times a is 1", CallEdgeTest::unitPairs);
        Check.end("CallEdgeTest");
    }

    private static void all(NoiseRing x, int r, int v) {
        for (int i = 0; i < 16; i++) {
            x.set(r, i, v);
        }
    }

    private static void rowOf(String what, NoiseRing x, int r, long due) {
        for (int i = 0; i < 16; i++) {
            Check.same(what + ", coefficient " + i, x.get(r, i), due);
        }
    }

    private static void newObject() {
        NoiseRing x = new NoiseRing();
        Check.same("KIND", x.count(0), 0);
        Check.same("set before any begin", x.set(11, 15, 3329), 0);
        Check.same("is modulo 3,329", x.get(11, 15), 0);
        Check.same("all REGISTERS are 0", x.count(3), 12);
        Check.no("0 is no unit", x.unit(0));
        Check.same("size of 0", x.size(0), 0);
    }

    private static void begin(int kind) {
        for (int from = 0; from < 2; from++) {
            NoiseRing x = Check.ring(from);
            for (int r = 0; r < 12; r++) {
                all(x, r, r + 1);
            }
            Check.same("none is 0", x.count(3), 0);
            Check.same("begin from KIND " + from, x.begin(kind), Check.Q[kind]);
            Check.same("KIND", x.count(0), kind);
            Check.same("Q", x.count(1), Check.Q[kind]);
            Check.same("z", x.count(2), Model.z(kind));
            Check.same("all are 0", x.count(3), 12);
            for (int r = 0; r < 12; r++) {
                rowOf("register " + r, x, r, 0);
            }
        }
    }

    private static void set(int kind) {
        int q = Check.Q[kind];
        NoiseRing x = Check.ring(kind);
        Check.same("was 0 at first", x.set(0, 0, q), 0);
        Check.same("Q became 0", x.set(0, 0, q - 1), 0);
        Check.same("Q - 1 stayed", x.set(0, 0, -1), q - 1);
        Check.same("-1 became Q - 1", x.set(0, 0, -q), q - 1);
        Check.same("-Q became 0", x.set(0, 0, 1 - q), 0);
        Check.same("1 - Q became 1", x.set(0, 0, q + 1), 1);
        Check.same("Q + 1 became 1", x.set(0, 0, Integer.MIN_VALUE), 1);
        Check.same("the least int", x.set(0, 0, Integer.MAX_VALUE), kind == 0 ? 988 : 6283521);
        Check.same("the greatest int", x.set(0, 0, 0), kind == 0 ? 2340 : 2096895);
        Check.same("0 again", x.get(0, 0), 0);
    }

    private static void get(int kind) {
        NoiseRing x = Check.ring(kind);
        x.set(0, 0, 1);
        x.set(0, 15, 2);
        x.set(11, 0, 3);
        x.set(11, 15, 4);
        Check.same("get(0, 0)", x.get(0, 0), 1);
        Check.same("get(0, 15)", x.get(0, 15), 2);
        Check.same("get(11, 0)", x.get(11, 0), 3);
        Check.same("get(11, 15)", x.get(11, 15), 4);
        Check.same("get changes nothing", x.get(11, 15), 4);
        Check.noSuch("get(11, 16)", () -> x.get(11, 16));
        Check.noSuch("get(12, 15)", () -> x.get(12, 15));
        Check.noSuch("get(0, -1)", () -> x.get(0, -1));
        Check.noSuch("get(-1, 0)", () -> x.get(-1, 0));
    }

    private static void joinOps(int kind) {
        int q = Check.Q[kind];
        NoiseRing x = Check.ring(kind);
        x.set(0, 0, 3);
        x.set(1, 0, 5);
        Check.illegal("op -1", () -> x.join(2, -1, 0, 1));
        Check.illegal("op 3", () -> x.join(2, 3, 0, 1));
        Check.same("what was refused changes nothing", x.count(3), 10);
        Check.same("op 0", x.join(2, 0, 0, 1), 8);
        Check.row("op 0", x, 2, 8);
        Check.same("op 1", x.join(2, 1, 0, 1), 2);
        Check.row("op 1", x, 2, q - 2);
        Check.same("op 2", x.join(2, 2, 0, 1), 15);
        Check.row("op 2", x, 2, 15);
    }

    private static void joinSizes(int kind) {
        int q = Check.Q[kind];
        int half = (q - 1) / 2;
        NoiseRing x = Check.ring(kind);
        Check.same("0 + 0", x.join(2, 0, 0, 1), 0);
        Check.same("0 times 0", x.join(2, 2, 0, 1), 0);
        x.set(0, 15, half);
        x.set(1, 15, 1);
        Check.same("(Q - 1) / 2 + 1 is -(Q - 1) / 2", x.join(2, 0, 0, 1), half);
        Check.same("(Q - 1) / 2 + 2", x.join(2, 0, 2, 1), half - 1);
        Check.same("back to -(Q - 1) / 2", x.join(2, 1, 2, 1), half);
        Check.same("back to (Q - 1) / 2", x.join(2, 1, 2, 1), half);
        Check.same("(Q - 1) / 2 - 1", x.join(2, 1, 2, 1), half - 1);
        Check.same("the last of 16 is the greatest", x.size(2), half - 1);
    }

    private static void roundOps(int kind) {
        NoiseRing x = Check.ring(kind);
        x.set(0, 0, 3);
        Check.illegal("op -1", () -> x.round(1, -1, 0, 2));
        Check.illegal("op 4", () -> x.round(1, 4, 0, 2));
        Check.same("what was refused changes nothing", x.count(3), 11);
        Check.same("op 0", x.round(1, 0, 0, 2), 0);
        Check.same("op 1", x.round(1, 1, 0, 2), 1);
        Check.row("op 1", x, 1, kind == 0 ? 2497 : 6285313);
        Check.same("op 2", x.round(1, 2, 0, 2), 1);
        Check.row("op 2", x, 1, Check.Q[kind] - 1);
        Check.same("op 3", x.round(1, 3, 0, 2), 1);
        Check.row("op 3", x, 1, 1);
    }

    private static void roundCounts(int kind) {
        int q = Check.Q[kind];
        int most = Check.mostBits(kind);
        NoiseRing x = Check.ring(kind);
        for (int op = 0; op < 4; op++) {
            Check.same("none of 0, op " + op, x.round(1, op, 0, most), 0);
        }
        all(x, 0, (q - 1) / 2);
        Check.same("all, op 0, d 1", x.round(1, 0, 0, 1), 16);
        Check.same("all, op 0", x.round(1, 0, 0, most), 16);
        Check.same("all, op 1", x.round(1, 1, 0, most), 16);
        Check.same("all, op 2", x.round(1, 2, 0, most), 16);
        Check.same("all, op 3", x.round(1, 3, 0, 1), 16);
        all(x, 0, q - 1);
        Check.same("Q - 1 is 2^d, and so 0, for d 1", x.round(1, 0, 0, 1), 0);
    }

    private static void partCounts(int kind) {
        int q = Check.Q[kind];
        NoiseRing x = Check.ring(kind);
        for (int alpha : new int[] {2, q - 1}) {
            Check.same("no PART of 0", x.part(1, 0, alpha, true), 0);
            Check.same("no REST of 0", x.part(1, 0, alpha, false), 0);
        }
        all(x, 0, q - 1);
        Check.same("no PART of Q - 1", x.part(1, 0, 2, true), 0);
        Check.same("each REST of Q - 1 is -1", x.part(1, 0, 2, false), 16);
        rowOf("REST of Q - 1", x, 1, q - 1);
        all(x, 0, q - 3);
        Check.same("each PART of Q - 3", x.part(1, 0, 2, true), 16);
        rowOf("PART of Q - 3", x, 1, (q - 3) / 2);
        Check.same("no REST of Q - 3", x.part(1, 0, 2, false), 0);
    }

    private static void hintEdges(int kind) {
        int q = Check.Q[kind];
        for (int alpha : Check.alphas(kind)) {
            int half = alpha / 2;
            // With one part alone, nothing is ever another.
            int one = alpha < q - 1 ? 1 : 0;
            int top = q - 1 - half;
            NoiseRing x = Check.ring(kind);
            Check.fill(x, 0, top, top, top + 1, top + 1, top + 1, half, half, half, half, half, 0, 0, q - 1, q - 1);
            Check.fill(x, 1, 0, 1, half - 1, half, q - 1, 0, 1, q - half, q - alpha, q - alpha - 1,
                half, half + 1, half + 1, half + 2);
            long[] due = {0, one, 0, 0, one, 0, one, 0, 0, one, 0, one, 0, one};
            int found = one == 0 ? 0 : 6;
            Check.same("ALPHA " + alpha, x.hint(2, 0, 1, alpha), found);
            Check.row("ALPHA " + alpha, x, 2, due);
        }
    }

    private static void hintCounts(int kind) {
        int q = Check.Q[kind];
        NoiseRing x = Check.ring(kind);
        all(x, 0, 1);
        Check.same("nothing added", x.hint(2, 0, 1, 2), 0);
        rowOf("nothing added", x, 2, 0);
        all(x, 1, 1);
        Check.same("all over the edge", x.hint(2, 0, 1, 2), 16);
        rowOf("all over the edge", x, 2, 1);
        all(x, 1, q - 1);
        Check.same("Q - 1 more is one less", x.hint(2, 0, 1, 2), 0);
    }

    private static void useEdges(int kind) {
        int q = Check.Q[kind];
        for (int alpha : Check.alphas(kind)) {
            int half = alpha / 2;
            int parts = (q - 1) / alpha;
            NoiseRing x = Check.ring(kind);
            Check.fill(x, 0, 0, 1, half, half + 1, alpha, q - 1 - half, q - half, q - 1);
            Check.fill(x, 1, 1, 1, 1, 1, 1, 1, 1, 1);
            x.use(2, 0, 1, alpha);
            Check.row("ALPHA " + alpha, x, 2, parts - 1, 1 % parts, 1 % parts, 0, 0, 0, parts - 1, parts - 1);
        }
    }

    private static void useHints(int kind) {
        int q = Check.Q[kind];
        NoiseRing x = Check.ring(kind);
        Check.fill(x, 0, 3, 3, 3, 3, 3, 3);
        Check.fill(x, 1, 0, 1, 2, q - 1, (q + 1) / 2, q);
        Check.same("each that is not 0 is a hint", x.use(2, 0, 1, 2), 4);
        Check.row("each that is not 0 is a hint", x, 2, 1, 2, 2, 2, 2, 1);
    }

    /** A PART that one more, modulo 1, leaves what it was is not changed. */
    private static void useCounts(int kind) {
        int q = Check.Q[kind];
        NoiseRing x = Check.ring(kind);
        all(x, 0, q - 1);
        Check.same("none without hints", x.use(2, 0, 1, 2), 0);
        rowOf("none without hints", x, 2, 0);
        all(x, 1, 1);
        Check.same("all", x.use(2, 0, 1, 2), 16);
        rowOf("all", x, 2, (q - 3) / 2);
        Check.same("two parts alone", x.use(2, 0, 1, (q - 1) / 2), 16);
        rowOf("two parts alone", x, 2, 1);
        Check.same("one part alone", x.use(2, 0, 1, q - 1), 0);
        rowOf("one part alone", x, 2, 0);
    }

    private static void size(int kind) {
        int q = Check.Q[kind];
        for (int i = 0; i < 16; i++) {
            NoiseRing x = Check.ring(kind);
            Check.same("0", x.size(0), 0);
            all(x, 0, q - 1);
            Check.same("-1 all over", x.size(0), 1);
            x.set(0, i, (q - 1) / 2);
            Check.same("(Q - 1) / 2 at " + i, x.size(0), (q - 1) / 2);
            x.set(0, i, (q + 1) / 2);
            Check.same("-(Q - 1) / 2 at " + i, x.size(0), (q - 1) / 2);
        }
    }

    private static void far(int kind) {
        int q = Check.Q[kind];
        NoiseRing x = Check.ring(kind);
        Check.same("0 and 0", x.far(0, 1), 0);
        all(x, 0, (q - 1) / 2);
        Check.same("the farthest", x.far(0, 1), 8 * (q - 1));
        Check.same("the farthest from the other side", x.far(1, 0), 8 * (q - 1));
        all(x, 1, q - 1);
        Check.same("nearer by the other way round", x.far(0, 1), 8 * (q - 1));
        all(x, 0, 0);
        Check.same("0 and -1", x.far(0, 1), 16);
        Check.same("-1 and 0", x.far(1, 0), 16);
        Check.same("itself", x.far(1, 1), 0);
    }

    private static void etas(int kind) {
        NoiseRing x = Check.ring(kind);
        x.set(0, 0, 7);
        Check.illegal("eta 0", () -> x.noise(0, 0, 1L, 0L));
        Check.illegal("eta 4", () -> x.noise(0, 4, 1L, 0L));
        Check.row("what was refused changes nothing", x, 0, 7);
        for (int eta = 1; eta <= 3; eta++) {
            Check.same("eta " + eta, x.noise(0, eta, 1L, 0L), 1);
            Check.row("eta " + eta, x, 0, 1);
        }
    }

    /** The last bit that is used, and the first behind it, which is not. */
    private static void lastBits(int kind) {
        long[][] bits = {{1, 1L << 31, 0, 1L << 32, 0}, {1, 1L << 31, 0, 0, 1}, {2, Long.MIN_VALUE, 0, 0, 1},
            {3, 0, 1L << 31, 0, 1L << 32}, {3, 0, 1L << 31, 0, Long.MIN_VALUE}};
        for (long[] b : bits) {
            NoiseRing x = Check.ring(kind);
            String what = "eta " + b[0];
            Check.same(what + ", the last bit", x.noise(11, (int) b[0], b[1], b[2]), 1);
            Check.same(what + ", the last bit", x.get(11, 15), Check.Q[kind] - 1);
            Check.same(what + ", the first bit behind", x.noise(11, (int) b[0], b[3], b[4]), 0);
            rowOf(what + ", the first bit behind", x, 11, 0);
        }
        NoiseRing x = Check.ring(kind);
        Check.same("low's last bit, eta 3", x.noise(0, 3, Long.MIN_VALUE, 0L), 1);
        Check.same("low's last bit, eta 3", x.get(0, 10), Check.Q[kind] - 1);
        Check.same("high's first bit, eta 3", x.noise(0, 3, 0L, 1L), 1);
        Check.same("high's first bit, eta 3", x.get(0, 10), Check.Q[kind] - 1);
        Check.same("both of them", x.noise(0, 3, Long.MIN_VALUE, 1L), 1);
        Check.same("both of them", x.get(0, 10), Check.Q[kind] - 2);
    }

    private static void noiseExtremes(int kind) {
        int q = Check.Q[kind];
        for (int eta = 1; eta <= 3; eta++) {
            long[] more = new long[2];
            long[] less = new long[2];
            for (int bit = 0; bit < 128; bit++) {
                long[] words = bit / eta % 2 == 0 ? more : less;
                words[bit / 64] |= 1L << bit % 64;
            }
            NoiseRing x = Check.ring(kind);
            Check.same("the most, eta " + eta, x.noise(0, eta, more[0], more[1]), 16);
            rowOf("the most, eta " + eta, x, 0, eta);
            Check.same("the least, eta " + eta, x.noise(0, eta, less[0], less[1]), 16);
            rowOf("the least, eta " + eta, x, 0, q - eta);
            Check.same("as many of both, eta " + eta, x.noise(0, eta, -1L, -1L), 0);
            rowOf("as many of both, eta " + eta, x, 0, 0);
            Check.same("no bits, eta " + eta, x.noise(0, eta, 0L, 0L), 0);
        }
    }

    private static void valuePlaces(int kind) {
        NoiseRing x = Check.ring(kind);
        x.set(0, 0, 9);
        Check.same("value(0, 0) of 9", x.value(0, 0), 9);
        Check.same("value(0, 15) of 9", x.value(0, 15), kind == 0 ? 0 : 9);
        Check.noSuch("value(0, -1)", () -> x.value(0, -1));
        Check.noSuch("value(0, 16)", () -> x.value(0, 16));
        Check.noSuch("value(12, 0)", () -> x.value(12, 0));
        Check.noSuch("value(-1, 15)", () -> x.value(-1, 15));
        Check.row("nothing is changed", x, 0, 9);
        Check.fill(x, 0, 0, 1);
        Check.same("value(0, 0) of x", x.value(0, 0), kind == 0 ? 0 : 7778734);
        Check.same("value(0, 15) of x", x.value(0, 15), kind == 0 ? 1 : 1221177);
        Check.fill(x, 0, 0, 0, 1);
        Check.same("value(0, 0) of x^2", x.value(0, 0), kind == 0 ? 2642 : Model.power(7778734, 2, 8380417));
        Check.same("value(0, 14) of x^2", x.value(0, 14), kind == 0 ? 2481 : Model.power(7778734, 58, 8380417));
    }

    /** No polynomial sums up more than the one whose coefficients are all Q - 1. */
    private static void valueExtremes(int kind) {
        long q = Check.Q[kind];
        NoiseRing x = Check.ring(kind);
        for (int i = 0; i < 16; i++) {
            Check.same("0 at " + i, x.value(0, i), 0);
        }
        all(x, 0, -1);
        for (int i = 0; i < 16; i++) {
            long c = Model.power(Model.z(kind), 2 * (kind == 0 ? i / 2 : i) + 1, q);
            // 1 + c + .. times c - 1 is c^8 - 1 (KIND 1: c^16 - 1), that is -2; here with the other sign.
            Check.same("-1 all over, at " + i, x.value(0, i) * (c - 1) % q, 2);
        }
    }

    private static void valuePairs() {
        NoiseRing x = Check.ring(0);
        x.set(0, 0, 5);
        x.set(0, 1, 7);
        x.set(1, 2, 1);
        x.set(2, 3, 1);
        x.set(3, 15, 1);
        for (int i = 0; i < 16; i++) {
            long c = Model.power(2642, 2 * (i / 2) + 1, 3329);
            boolean even = i % 2 == 0;
            Check.same("5 + 7 x is its own rest, " + i, x.value(0, i), even ? 5 : 7);
            Check.same("x^2, " + i, x.value(1, i), even ? c : 0);
            Check.same("x^3, " + i, x.value(2, i), even ? 0 : c);
            Check.same("x^15, " + i, x.value(3, i), even ? 0 : Model.power(c, 7, 3329));
        }
    }

    private static void unit(int kind) {
        int q = Check.Q[kind];
        NoiseRing x = Check.ring(kind);
        Check.no("0", x.unit(0));
        x.set(0, 0, 1);
        Check.yes("1", x.unit(0));
        x.set(0, 0, q - 1);
        Check.yes("-1", x.unit(0));
        x.set(0, 0, 0);
        x.set(0, 15, 1);
        Check.yes("x^15", x.unit(0));
        for (int i = 0; i < 16; i++) {
            long zero = Model.power(kind == 0 ? 17 : 1753, (kind == 0 ? 8 : 16) * (2 * i + 1), q);
            Check.fill(x, 1, (int) (q - zero), 1);
            Check.no("x - c, c one zero of x^16 + 1, " + i, x.unit(1));
            x.set(1, 0, (int) (q - zero + 1));
            Check.yes("x - c + 1, " + i, x.unit(1));
        }
        Check.same("unit changes nothing", x.get(0, 15), 1);
        Check.noSuch("unit(12)", () -> x.unit(12) ? 1 : 0);
        Check.noSuch("unit(-1)", () -> x.unit(-1) ? 1 : 0);
    }

    /** KIND 0: a rest by x^2 - c that is 0, and one that is not 0 but has no inverse. */
    private static void unitPairs() {
        for (int j = 0; j < 8; j++) {
            NoiseRing x = Check.ring(0);
            long root = Model.power(17, 8 * (2 * j + 1), 3329);
            long c = Model.power(2642, 2 * j + 1, 3329);
            Check.same("root^2 is c", root * root % 3329, c);
            Check.fill(x, 0, (int) -c, 0, 1);
            Check.no("x^2 - c", x.unit(0));
            Check.same("its rest is 0", x.value(0, 2 * j), 0);
            Check.same("its rest is 0", x.value(0, 2 * j + 1), 0);
            Check.fill(x, 1, (int) root, 1);
            Check.fill(x, 2, (int) -root, 1);
            Check.no("x + root", x.unit(1));
            Check.no("x - root", x.unit(2));
            x.join(3, 2, 1, 2);
            Check.same("their product is x^2 - c", x.far(3, 0), 0);
            Check.fill(x, 4, 0, 0, 0, 0, 0, 1);
            Check.fill(x, 5, 0, 0, 0, 0, 0, 0, 0, 0, 0, 0, 0, -1);
            Check.yes("x^5", x.unit(4));
            x.join(6, 2, 4, 5);
            Check.row("x^5 times -x^11", x, 6, 1);
        }
    }

    private static void countRegisters(int kind) {
        NoiseRing x = Check.ring(kind);
        Check.same("all at first", x.count(3), 12);
        for (int r = 0; r < 12; r++) {
            x.set(r, r, 1);
            x.set(r, 15, 1);
        }
        Check.same("none", x.count(3), 0);
        x.set(11, 15, 0);
        Check.same("one coefficient is left", x.count(3), 0);
        x.set(11, 11, Check.Q[kind]);
        Check.same("none is left", x.count(3), 1);
    }

    private static void countElse(int kind) {
        NoiseRing x = Check.ring(kind);
        Check.same("count(0)", x.count(0), kind);
        Check.same("count(-1)", x.count(-1), -1);
        Check.same("count(4)", x.count(4), -1);
        Check.same("the least int", x.count(Integer.MIN_VALUE), -1);
        Check.same("the greatest int", x.count(Integer.MAX_VALUE), -1);
        Check.same("count(256)", x.count(256), -1);
    }

    private interface Three {
        int call(NoiseRing x, int to, int a, int b);
    }

    /** What comes out is the same as with three registers apart, and the other registers stay. */
    private static void sameRegisters(int kind) {
        int alpha = kind == 0 ? 416 : 190464;
        Three[] calls = {(x, to, a, b) -> x.join(to, 0, a, b), (x, to, a, b) -> x.join(to, 1, a, b),
            (x, to, a, b) -> x.join(to, 2, a, b), (x, to, a, b) -> x.hint(to, a, b, alpha),
            (x, to, a, b) -> x.use(to, a, b, alpha), (x, to, a, b) -> x.round(to, 0, a, 4),
            (x, to, a, b) -> x.round(to, 1, a, 4), (x, to, a, b) -> x.round(to, 2, a, 4),
            (x, to, a, b) -> x.round(to, 3, a, 4), (x, to, a, b) -> x.part(to, a, alpha, true),
            (x, to, a, b) -> x.part(to, a, alpha, false)};
        for (int k = 0; k < calls.length; k++) {
            for (int[] which : new int[][] {{0, 0, 1}, {1, 0, 1}, {0, 0, 0}, {2, 0, 0}, {11, 0, 11}}) {
                NoiseRing x = Check.ring(kind);
                for (int r : new int[] {0, 1, 11}) {
                    for (int i = 0; i < 16; i++) {
                        x.set(r, i, (r * 17 + i * 5 + 1) * 523_987);
                        x.set(r == 11 ? 10 : r + 3, i, (r * 17 + i * 5 + 1) * 523_987);
                    }
                }
                String what = "call " + k + " with " + which[0] + ", " + which[1] + ", " + which[2];
                int apartB = which[2] == 11 ? 10 : which[2] + 3;
                int due = calls[k].call(x, 7, which[1] + 3, apartB);
                Check.same(what, calls[k].call(x, which[0], which[1], which[2]), due);
                Check.same(what + ": the same polynomial", x.far(which[0], 7), 0);
                for (int r : new int[] {0, 1, 11}) {
                    boolean stays = r == which[0] || x.far(r, r == 11 ? 10 : r + 3) == 0;
                    Check.yes(what + ": " + r + " stays", stays);
                }
            }
        }
    }
}
