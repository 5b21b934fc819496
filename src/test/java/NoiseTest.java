/** Promise 12: noise. */
final class NoiseTest {
    public static void main(String[] args) {
        for (int kind = 0; kind < 2; kind++) {
            pairs(kind);
            acrossTheWords(kind);
            everyBit(kind);
            replaces(kind);
        }
        Check.end("NoiseTest");
    }

    private static void pairs(int kind) {
        int q = Check.Q[kind];
        NoiseRing x = Check.ring(kind);
        Check.same("eta 1", x.noise(0, 1, 0b11_10_01_00L, -1L), 2);
        Check.row("eta 1", x, 0, 0, 1, q - 1, 0);
        Check.same("eta 2", x.noise(0, 2, 0b0110_1100_0011_0001L, -1L), 3);
        Check.row("eta 2", x, 0, 1, 2, q - 2, 0);
        Check.same("eta 3", x.noise(0, 3, 0b111000_000111_101011L, 0L), 2);
        Check.row("eta 3", x, 0, 0, 3, q - 3);
        Check.same("all bits 1", x.noise(0, 3, -1L, -1L), 0);
        Check.row("all bits 1", x, 0);
    }

    /** With eta 3, coefficient 10 has its bits 60 .. 65: four of low, two of high. */
    private static void acrossTheWords(int kind) {
        int q = Check.Q[kind];
        NoiseRing x = Check.ring(kind);
        Check.same("low's last four", x.noise(5, 3, 0xFL << 60, 0L), 1);
        Check.row("low's last four", x, 5, 0, 0, 0, 0, 0, 0, 0, 0, 0, 0, 2);
        Check.same("high's first two", x.noise(5, 3, 0L, 3L), 1);
        Check.row("high's first two", x, 5, 0, 0, 0, 0, 0, 0, 0, 0, 0, 0, q - 2);
    }

    private static void everyBit(int kind) {
        int q = Check.Q[kind];
        for (int eta = 1; eta <= 3; eta++) {
            for (int bit = 0; bit < 128; bit++) {
                NoiseRing x = Check.ring(kind);
                long low = bit < 64 ? 1L << bit : 0;
                long high = bit < 64 ? 0 : 1L << (bit - 64);
                long[] due = new long[16];
                boolean used = bit < 32 * eta;
                if (used) {
                    due[bit / (2 * eta)] = bit / eta % 2 == 0 ? 1 : q - 1;
                }
                String what = "eta " + eta + ", bit " + bit;
                Check.same(what, x.noise(11, eta, low, high), used ? 1 : 0);
                Check.row(what, x, 11, due);
            }
        }
    }

    private static void replaces(int kind) {
        NoiseRing x = Check.ring(kind);
        Check.fill(x, 1, 9, 9, 9, 9, 9, 9, 9, 9, 9, 9, 9, 9, 9, 9, 9, 9);
        x.set(2, 2, 2);
        Check.same("no bits", x.noise(1, 2, 0L, 0L), 0);
        Check.row("no bits", x, 1);
        Check.same("other registers stay", x.get(2, 2), 2);
    }
}
