/** Promises 1 to 4 and 15: a new object, begin, set, get, count. */
final class StateTest {
    public static void main(String[] args) {
        newObject();
        begin();
        setAndGet();
        count();
        apart();
        Check.end("StateTest");
    }

    private static void newObject() {
        NoiseRing x = new NoiseRing();
        Check.same("new: KIND", x.count(0), 0);
        Check.same("new: Q", x.count(1), 3329);
        Check.same("new: z", x.count(2), 2642);
        Check.same("new: REGISTERS that are 0", x.count(3), 12);
        for (int r = 0; r < 12; r++) {
            Check.row("new: register " + r, x, r);
        }
    }

    private static void begin() {
        NoiseRing x = new NoiseRing();
        x.set(0, 0, 5);
        x.set(11, 15, 7);
        Check.same("begin(1)", x.begin(1), 8380417);
        Check.same("begin(1): KIND", x.count(0), 1);
        Check.same("begin(1): REGISTERS that are 0", x.count(3), 12);
        x.set(3, 3, 8380416);
        Check.same("begin(1) again", x.begin(1), 8380417);
        Check.same("begin(1) again: REGISTERS that are 0", x.count(3), 12);
        Check.same("begin(1) again: get", x.get(3, 3), 0);
        x.set(4, 4, 4);
        Check.same("begin(0)", x.begin(0), 3329);
        Check.same("begin(0): KIND", x.count(0), 0);
        Check.same("begin(0): REGISTERS that are 0", x.count(3), 12);
        for (int kind : new int[] {-1, 2, 3, Integer.MIN_VALUE, Integer.MAX_VALUE}) {
            NoiseRing y = Check.ring(1);
            y.set(2, 2, 2);
            String before = Check.state(y);
            Check.illegal("begin(" + kind + ")", () -> y.begin(kind));
            Check.yes("begin(" + kind + ") changes nothing", before.equals(Check.state(y)));
        }
    }

    private static void setAndGet() {
        for (int kind = 0; kind < 2; kind++) {
            NoiseRing x = Check.ring(kind);
            int q = Check.Q[kind];
            int[] values = {1, q - 1, q, q + 1, -1, -q, -q - 1, 2 * q + 3,
                Integer.MAX_VALUE, Integer.MIN_VALUE, 0, 12345678};
            long before = 0;
            for (int v : values) {
                Check.same("set(11, 15, " + v + ")", x.set(11, 15, v), before);
                before = ((long) v % q + q) % q;
                Check.same("get(11, 15) after " + v, x.get(11, 15), before);
            }
            Check.same("set touches one register", x.count(3), 11);
        }
    }

    private static void count() {
        NoiseRing x = Check.ring(1);
        Check.same("count(1)", x.count(1), 8380417);
        long z = 1;
        for (int i = 0; i < 16; i++) {
            z = z * 1753 % 8380417;
        }
        Check.same("count(2)", x.count(2), z);
        long power = 1;
        for (int i = 0; i < 16; i++) {
            power = power * x.count(2) % 8380417;
        }
        Check.same("z^16 of KIND 1", power, 8380416);
        for (int what : new int[] {-1, 4, 5, Integer.MIN_VALUE, Integer.MAX_VALUE}) {
            Check.same("count(" + what + ")", x.count(what), -1);
        }
        for (int r = 0; r < 12; r++) {
            x.set(r, 15 - r, 1);
            Check.same("count(3) with " + (r + 1) + " filled", x.count(3), 11 - r);
        }
        x.set(5, 10, 8380417);
        Check.same("count(3) with one emptied", x.count(3), 1);
    }

    private static void apart() {
        NoiseRing x = new NoiseRing();
        NoiseRing y = new NoiseRing();
        x.begin(1);
        x.set(0, 0, 9);
        Check.same("another object's KIND", y.count(0), 0);
        Check.same("another object's register", y.get(0, 0), 0);
        for (int r = 0; r < 12; r++) {
            for (int i = 0; i < 16; i++) {
                Check.same("each place is its own", x.set(r, i, 100 * r + i), r == 0 && i == 0 ? 9 : 0);
            }
        }
        for (int r = 0; r < 12; r++) {
            for (int i = 0; i < 16; i++) {
                Check.same("get(" + r + ", " + i + ")", x.get(r, i), 100 * r + i);
            }
        }
    }
}
