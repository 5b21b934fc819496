/** Promise 6: round. */
final class RoundTest {
    public static void main(String[] args) {
        kindZero();
        kindOne();
        for (int kind = 0; kind < 2; kind++) {
            everyWidth(kind);
            thereAndBack(kind);
        }
        Check.end("RoundTest");
    }

    private static void kindZero() {
        NoiseRing x = Check.ring(0);
        Check.fill(x, 0, 0, 832, 833, 1664, 1665, 2496, 2497, 3328, 1, 2, 3);
        Check.same("FEWER to 1 bit", x.round(1, 0, 0, 1), 4);
        Check.row("FEWER to 1 bit", x, 1, 0, 0, 1, 1, 1, 1, 0, 0);
        Check.same("MORE from 1 bit", x.round(1, 1, 0, 1), 5);
        Check.row("MORE from 1 bit", x, 1, 0, 0, 1665, 0, 1665, 0, 1665, 0, 1665, 0, 1665);
        Check.same("LOW, 1 bit", x.round(1, 2, 0, 1), 5);
        Check.row("LOW, 1 bit", x, 1, 0, 0, 1, 0, 1, 0, 1, 0, 1, 0, 1);
        Check.same("LOW, 2 bits", x.round(1, 2, 0, 2), 6);
        Check.row("LOW, 2 bits", x, 1, 0, 0, 1, 0, 1, 0, 1, 0, 1, 2, 3328);
        Check.same("HIGH, 2 bits", x.round(1, 3, 0, 2), 8);
        Check.row("HIGH, 2 bits", x, 1, 0, 208, 208, 416, 416, 624, 624, 832, 0, 0, 1);
        Check.same("LOW, 11 bits", x.round(1, 2, 0, 11), 10);
        Check.row("LOW, 11 bits", x, 1, 0, 832, 833, 1664 - 2048 + 3329, 1665 - 2048 + 3329, 448, 449,
            3328 - 4096 + 3329, 1, 2, 3);
        Check.row("a stays", x, 0, 0, 832, 833, 1664, 1665, 2496, 2497, 3328, 1, 2, 3);
    }

    private static void kindOne() {
        NoiseRing x = Check.ring(1);
        Check.fill(x, 0, 4096, 4097, 8192, 8380416, 4194304, 1);
        Check.same("LOW, 13 bits", x.round(1, 2, 0, 13), 3);
        Check.row("LOW, 13 bits", x, 1, 4096, 8380417 - 4095, 0, 0, 0, 1);
        Check.same("HIGH, 13 bits", x.round(1, 3, 0, 13), 4);
        Check.row("HIGH, 13 bits", x, 1, 0, 1, 1, 1023, 512, 0);
        Check.same("FEWER to 22 bits", x.round(1, 0, 0, 22), 6);
        Check.row("FEWER to 22 bits", x, 1, 2050, 2051, 4100, 4194303, 2099202, 1);
        Check.same("MORE from 22 bits", x.round(1, 1, 0, 22), 5);
        Check.row("MORE from 22 bits", x, 1, 8184, 8186, 16368, 8364049, 0, 2);
        Check.same("into itself", x.round(0, 3, 0, 13), 4);
        Check.row("into itself", x, 0, 0, 1, 1, 1023, 512, 0);
    }

    private static void everyWidth(int kind) {
        int q = Check.Q[kind];
        for (int d = 1; d <= (kind == 0 ? 11 : 22); d++) {
            int half = 1 << (d - 1);
            int[] a = {0, 1, half - 1, half, half + 1, 2 * half - 1, 2 * half, 3 * half, 3 * half + 1,
                (int) ((long) q * half / (2 * half)), (int) ((long) q * half / (2 * half)) + 1,
                q / (4 * half), q / (4 * half) + 1, q - 1 - q / (4 * half), q - q / (4 * half), q - 1};
            for (int op = 0; op < 4; op++) {
                NoiseRing x = Check.ring(kind);
                Check.fill(x, 3, a);
                int found = 0;
                int answer = x.round(4, op, 3, d);
                for (int i = 0; i < 16; i++) {
                    long due = Model.rounded(kind, op, a[i] % q, d);
                    found += due != 0 ? 1 : 0;
                    Check.same("round op " + op + " of " + a[i] + ", d " + d, x.get(4, i), due);
                }
                Check.same("round op " + op + ", d " + d + ": how many are not 0", answer, found);
            }
        }
    }

    /** Rounding back and forth again must give the same bits: MORE goes to the nearest that FEWER brings there. */
    private static void thereAndBack(int kind) {
        NoiseRing x = Check.ring(kind);
        for (int d = 1; d <= (kind == 0 ? 11 : 22); d++) {
            for (int i = 0; i < 16; i++) {
                x.set(0, i, Math.floorMod(i * 2654435, 1 << d));
            }
            x.round(1, 1, 0, d);
            x.round(1, 0, 1, d);
            Check.same("FEWER of MORE, d " + d, x.far(0, 1), 0);
        }
    }
}
