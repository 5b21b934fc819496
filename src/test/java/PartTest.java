/** Promises 7 to 9: part, hint, use. */
final class PartTest {
    private static final int Q0 = 3329;

    public static void main(String[] args) {
        parts();
        oneEdge();
        hints();
        uses();
        onePartAlone();
        hintsMend();
        everyAlpha();
        Check.end("PartTest");
    }

    private static void parts() {
        NoiseRing x = Check.ring(0);
        Check.fill(x, 0, 0, 1, 208, 209, 416, 624, 625, 3120, 3121, 3328, 3000);
        Check.same("PART, 416", x.part(1, 0, 416, true), 6);
        Check.row("PART, 416", x, 1, 0, 0, 0, 1, 1, 1, 2, 7, 0, 0, 7);
        Check.same("REST, 416", x.part(1, 0, 416, false), 9);
        Check.row("REST, 416", x, 1, 0, 1, 208, Q0 - 207, 0, 208, Q0 - 207, 208, Q0 - 208, Q0 - 1, 88);
        Check.row("a stays", x, 0, 0, 1, 208, 209, 416, 624, 625, 3120, 3121, 3328, 3000);
        x.part(0, 0, 416, true);
        Check.row("into itself", x, 0, 0, 0, 0, 1, 1, 1, 2, 7, 0, 0, 7);
    }

    private static void oneEdge() {
        NoiseRing x = Check.ring(0);
        Check.fill(x, 0, 0, 1, 2, 3, 3326, 3327, 3328);
        Check.same("PART, 2", x.part(1, 0, 2, true), 4);
        Check.row("PART, 2", x, 1, 0, 0, 1, 1, 1663, 1663, 0);
        Check.same("REST, 2", x.part(1, 0, 2, false), 4);
        Check.row("REST, 2", x, 1, 0, 1, 0, 1, 0, 1, 3328);
        x.begin(1);
        Check.fill(x, 0, 95232, 95233, 8380416, 8285184, 8285185);
        Check.same("PART, 190464", x.part(1, 0, 190464, true), 2);
        Check.row("PART, 190464", x, 1, 0, 1, 0, 43, 0);
        Check.same("REST, 190464", x.part(1, 0, 190464, false), 5);
        Check.row("REST, 190464", x, 1, 95232, 8380417 - 95231, 8380416, 95232, 8380417 - 95232);
    }

    private static void hints() {
        NoiseRing x = Check.ring(0);
        Check.fill(x, 0, 208, 208, 209, 3120, 3120, 3328, 3328, 0, 0);
        Check.fill(x, 1, 0, 1, Q0 - 1, 1, Q0 - 1, 1, 300, 208, 209);
        Check.same("hint", x.hint(2, 0, 1, 416), 5);
        Check.row("hint", x, 2, 0, 1, 1, 1, 0, 0, 1, 0, 1);
        Check.row("a stays", x, 0, 208, 208, 209, 3120, 3120, 3328, 3328, 0, 0);
        Check.same("hint into b", x.hint(1, 0, 1, 416), 5);
        Check.row("hint into b", x, 1, 0, 1, 1, 1, 0, 0, 1, 0, 1);
    }

    private static void uses() {
        NoiseRing x = Check.ring(0);
        Check.fill(x, 0, 0, 1, 208, 209, 416, 417, 3120, 3121, 3328, 417);
        Check.fill(x, 1, 1, 1, 2, 3328, 1, 7, 1, 1, 1, 0);
        Check.same("use", x.use(2, 0, 1, 416), 9);
        Check.row("use", x, 2, 7, 1, 1, 0, 0, 2, 0, 7, 7, 1);
        Check.row("b stays", x, 1, 1, 1, 2, 3328, 1, 7, 1, 1, 1, 0);
        Check.same("use without hints", x.use(3, 0, 11, 416), 0);
        Check.row("use without hints", x, 3, 0, 0, 0, 1, 1, 1, 7, 0, 0, 1);
        Check.same("use with two parts alone", x.use(4, 0, 1, 1664), 9);
        Check.row("use with two parts alone", x, 4, 1, 1, 1, 1, 1, 1, 1, 1, 1, 0);
        x.use(1, 0, 1, 416);
        Check.row("use into b", x, 1, 7, 1, 1, 0, 0, 2, 0, 7, 7, 1);
    }

    /** With ALPHA Q - 1 all PARTS are 0, and one more or less is 0 modulo 1: nothing is changed. */
    private static void onePartAlone() {
        for (int kind = 0; kind < 2; kind++) {
            int q = Check.Q[kind];
            NoiseRing x = Check.ring(kind);
            Check.fill(x, 0, 0, 1, (q - 1) / 2, (q + 1) / 2, q - 1);
            Check.fill(x, 1, 1, 1, 1, 1, 1);
            Check.same("PART, Q - 1", x.part(2, 0, q - 1, true), 0);
            Check.same("REST, Q - 1", x.part(2, 0, q - 1, false), 4);
            Check.same("REST, Q - 1, is the coefficient", x.far(2, 0), 0);
            Check.same("hint, Q - 1", x.hint(2, 0, 1, q - 1), 0);
            x.set(2, 0, 1);
            Check.same("use, Q - 1", x.use(2, 0, 1, q - 1), 0);
            Check.row("use, Q - 1", x, 2);
        }
    }

    /** What hints are for: PART of the sum, found from a alone, as long as b is at most ALPHA / 2 in size. */
    private static void hintsMend() {
        int q = Check.Q[1];
        for (int round = 0; round < 50; round++) {
            NoiseRing x = Check.ring(1);
            for (int i = 0; i < 16; i++) {
                x.set(0, i, (int) ((i + 1) * 7919L * 7907 * (round + 1) % q));
                x.set(1, i, (int) ((i + 3) * 104729L * (round + 1) % 190464) - 95232 + 1);
            }
            int found = x.hint(2, 0, 1, 190464);
            Check.same("as many are changed as there are hints", x.use(3, 0, 2, 190464), found);
            x.join(4, 0, 0, 1);
            x.part(4, 4, 190464, true);
            Check.same("use gives PART of the sum", x.far(3, 4), 0);
        }
    }

    private static void everyAlpha() {
        for (int kind = 0; kind < 2; kind++) {
            int q = Check.Q[kind];
            for (int alpha = 2; alpha < q; alpha += 2) {
                if ((q - 1) % alpha == 0) {
                    edgesOf(kind, alpha);
                }
            }
        }
    }

    private static void edgesOf(int kind, int alpha) {
        int q = Check.Q[kind];
        int half = alpha / 2;
        int[] a = {0, 1, half - 1, half, half + 1, alpha - 1, alpha, alpha + 1, alpha + half, alpha + half + 1,
            q - 1 - half, q - half, q - 1, q - 2, q - alpha, q / 2};
        NoiseRing x = Check.ring(kind);
        Check.fill(x, 0, a);
        int parts = x.part(1, 0, alpha, true);
        int rests = x.part(2, 0, alpha, false);
        for (int i = 0; i < 16; i++) {
            long[] due = Model.partAndRest(kind, Math.floorMod(a[i], q), alpha);
            Check.same("PART of " + a[i] + ", " + alpha, x.get(1, i), due[0]);
            Check.same("REST of " + a[i] + ", " + alpha, x.get(2, i), Math.floorMod(due[1], (long) q));
            parts -= due[0] != 0 ? 1 : 0;
            rests -= due[1] != 0 ? 1 : 0;
        }
        Check.same("how many PARTS are not 0, " + alpha, parts, 0);
        Check.same("how many RESTS are not 0, " + alpha, rests, 0);
    }
}
