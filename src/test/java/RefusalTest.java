/** What each call throws, NoSuchElementException before IllegalArgumentException, and that nothing changes then. */
final class RefusalTest {
    private static final int[] NO_REGISTERS = {-1, 12, 13, Integer.MIN_VALUE, Integer.MAX_VALUE};
    private static final int[] NO_PLACES = {-1, 16, 17, Integer.MIN_VALUE, Integer.MAX_VALUE};

    private static int kind;
    private static NoiseRing x;

    public static void main(String[] args) {
        for (int each = 0; each < 2; each++) {
            kind = each;
            registers();
            places();
            ops();
            widths();
            alphas();
            etas();
        }
        Check.end("RefusalTest");
    }

    /** A new object for each refusal, since reading its whole state twice takes most of its 512 calls. */
    private static String renew() {
        x = Check.ring(kind);
        for (int r = 0; r < 12; r += 2) {
            for (int i = 0; i < 16; i++) {
                x.set(r, i, (r + 3) * (i + 5) * 7717);
            }
        }
        return Check.state(x);
    }

    private static void noSuch(String what, Check.Call call) {
        String before = renew();
        Check.noSuch(what, call);
        Check.yes(what + " changes nothing", before.equals(Check.state(x)));
    }

    private static void illegal(String what, Check.Call call) {
        String before = renew();
        Check.illegal(what, call);
        Check.yes(what + " changes nothing", before.equals(Check.state(x)));
    }

    /** The other arguments are wrong as well wherever they can be: the register is told of first. */
    private static void registers() {
        for (int r : NO_REGISTERS) {
            noSuch("set(r)", () -> x.set(r, 0, 1));
            noSuch("get(r)", () -> x.get(r, 0));
            noSuch("size(r)", () -> x.size(r));
            noSuch("unit(r)", () -> x.unit(r) ? 1 : 0);
            noSuch("value(r)", () -> x.value(r, 0));
            noSuch("far(r, 0)", () -> x.far(r, 0));
            noSuch("far(0, r)", () -> x.far(0, r));
            for (int wrong = 0; wrong < 2; wrong++) {
                int op = wrong == 0 ? 1 : 9;
                int number = wrong == 0 ? 2 : 0;
                noSuch("join(r, ..)", () -> x.join(r, op, 0, 0));
                noSuch("join(.., r, ..)", () -> x.join(0, op, r, 0));
                noSuch("join(.., r)", () -> x.join(0, op, 0, r));
                noSuch("round(r, ..)", () -> x.round(r, op, 0, number));
                noSuch("round(.., r, ..)", () -> x.round(0, op, r, number));
                noSuch("part(r, ..)", () -> x.part(r, 0, number, true));
                noSuch("part(.., r, ..)", () -> x.part(0, r, number, false));
                noSuch("hint(r, ..)", () -> x.hint(r, 0, 0, number));
                noSuch("hint(0, r, ..)", () -> x.hint(0, r, 0, number));
                noSuch("hint(0, 0, r, ..)", () -> x.hint(0, 0, r, number));
                noSuch("use(r, ..)", () -> x.use(r, 0, 0, number));
                noSuch("use(0, r, ..)", () -> x.use(0, r, 0, number));
                noSuch("use(0, 0, r, ..)", () -> x.use(0, 0, r, number));
                noSuch("noise(r, ..)", () -> x.noise(r, number, 1L, 1L));
            }
        }
    }

    private static void places() {
        for (int i : NO_PLACES) {
            noSuch("set(0, i)", () -> x.set(0, i, 1));
            noSuch("get(0, i)", () -> x.get(0, i));
            noSuch("value(0, i)", () -> x.value(0, i));
        }
    }

    private static void ops() {
        for (int op : new int[] {-1, 3, 4, Integer.MIN_VALUE, Integer.MAX_VALUE}) {
            illegal("join(0, op)", () -> x.join(0, op, 2, 4));
        }
        for (int op : new int[] {-1, 4, 5, Integer.MIN_VALUE, Integer.MAX_VALUE}) {
            illegal("round(0, op)", () -> x.round(0, op, 2, 1));
        }
    }

    private static void widths() {
        int most = kind == 0 ? 11 : 22;
        for (int op = 0; op < 4; op++) {
            int each = op;
            for (int d : new int[] {0, -1, most + 1, 23, 32, 33, 65, Integer.MIN_VALUE, Integer.MAX_VALUE}) {
                illegal("round with d " + d, () -> x.round(0, each, 2, d));
            }
        }
        NoiseRing y = Check.ring(kind);
        Check.same("the most bits", y.round(0, 0, 1, most), 0);
    }

    private static void alphas() {
        int q = Check.Q[kind];
        int[] wrong = {0, -1, 1, 3, 13, q, 2 * (q - 1), 1 - q, -2, 10, q - 2, 16384,
            Integer.MIN_VALUE, Integer.MAX_VALUE};
        for (int alpha : wrong) {
            illegal("part high with " + alpha, () -> x.part(0, 2, alpha, true));
            illegal("part low with " + alpha, () -> x.part(0, 2, alpha, false));
            illegal("hint with " + alpha, () -> x.hint(0, 2, 4, alpha));
            illegal("use with " + alpha, () -> x.use(0, 2, 4, alpha));
        }
        int other = kind == 0 ? 190464 : 26;
        illegal("part with the other KIND's", () -> x.part(0, 2, other, true));
    }

    private static void etas() {
        for (int eta : new int[] {0, -1, 4, 5, Integer.MIN_VALUE, Integer.MAX_VALUE}) {
            illegal("noise with eta " + eta, () -> x.noise(0, eta, 5L, 5L));
        }
    }
}
