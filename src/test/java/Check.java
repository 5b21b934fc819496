import java.util.NoSuchElementException;

/** What the tests share: they count wrong answers here, print them, and end with exit code 1 if there were any. */
final class Check {
    static final int[] Q = {3329, 8380417};

    interface Call {
        long answer();
    }

    private static int wrong = 0;
    private static int asked = 0;

    private Check() {
    }

    static void same(String what, long got, long due) {
        asked++;
        if (got != due) {
            wrong++;
            System.out.println(what + " answered " + got + ", due is " + due);
        }
    }

    static void yes(String what, boolean got) {
        same(what, got ? 1 : 0, 1);
    }

    static void no(String what, boolean got) {
        same(what, got ? 1 : 0, 0);
    }

    static void noSuch(String what, Call call) {
        named(what, call, NoSuchElementException.class.getSimpleName());
    }

    static void illegal(String what, Call call) {
        named(what, call, IllegalArgumentException.class.getSimpleName());
    }

    private static void named(String what, Call call, String due) {
        asked++;
        String got = outcome(call);
        if (!got.equals(due)) {
            wrong++;
            System.out.println(what + " ended with " + got + ", due is " + due);
        }
    }

    static String outcome(Call call) {
        try {
            return Long.toString(call.answer());
        } catch (RuntimeException e) {
            return e.getClass().getSimpleName();
        }
    }

    static void row(String what, NoiseRing ring, int r, long... due) {
        for (int i = 0; i < 16; i++) {
            same(what + ", coefficient " + i, ring.get(r, i), i < due.length ? due[i] : 0);
        }
    }

    static NoiseRing ring(int kind) {
        NoiseRing ring = new NoiseRing();
        ring.begin(kind);
        return ring;
    }

    static void fill(NoiseRing ring, int r, int... v) {
        for (int i = 0; i < 16; i++) {
            ring.set(r, i, i < v.length ? v[i] : 0);
        }
    }

    /** All that a caller can see of the registers and the kind. */
    static String state(NoiseRing ring) {
        StringBuilder text = new StringBuilder();
        for (int what = 0; what < 4; what++) {
            text.append(ring.count(what)).append(' ');
        }
        for (int r = 0; r < 12; r++) {
            for (int i = 0; i < 16; i++) {
                text.append(ring.get(r, i)).append(' ');
            }
        }
        return text.toString();
    }

    static void end(String test) {
        System.out.println(test + ": " + asked + " answers, " + wrong + " of them wrong");
        if (wrong != 0 || asked == 0) {
            System.exit(1);
        }
    }
}
