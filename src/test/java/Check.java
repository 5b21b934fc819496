import java.util.ArrayList;
import java.util.List;
import java.util.NoSuchElementException;

/** What the tests share: they count wrong answers here, print them, and end with exit code 1 if there were any. */
final class Check {
    static final int[] Q = {3329, 8380417};

    interface Call {
        long answer();
    }

    /** A call that makes another register's polynomial of register 0's. */
    interface Shape {
        int into(NoiseRing ring, int to);
    }

    private static int wrong = 0;
    private static int asked = 0;
    private static String about = "";

    private Check() {
    }

    /** A test of what one sentence of the document says; its words stand before what went wrong. */
    static void sentence(String words, Runnable test) {
        int before = asked;
        about = "\"" + words + "\": ";
        test.run();
        yes("something was asked", asked > before);
        about = "";
    }

    static void same(String what, long got, long due) {
        asked++;
        if (got != due) {
            wrong++;
            System.out.println(about + what + " answered " + got + ", due is " + due);
        }
    }

    static void yes(String what, boolean got) {
        same(what, got ? 1 : 0, 1);
    }

    static void no(String what, boolean got) {
        same(what, got ? 1 : 0, 0);
    }

    static void noSuch(String what, Call call) {
        named(what, call, NoSuchElementException.class.getSimpleName());
    }

    static void illegal(String what, Call call) {
        named(what, call, IllegalArgumentException.class.getSimpleName());
    }

    static void goes(String what, Call call) {
        asked++;
        String got = outcome(call);
        if (got.endsWith("Exception")) {
            wrong++;
            System.out.println(about + what + " ended with " + got + ", but must be taken");
        }
    }

    private static void named(String what, Call call, String due) {
        asked++;
        String got = outcome(call);
        if (!got.equals(due)) {
            wrong++;
            System.out.println(about + what + " ended with " + got + ", due is " + due);
        }
    }

    static String outcome(Call call) {
        try {
            return Long.toString(call.answer());
        } catch (RuntimeException e) {
            return e.getClass().getSimpleName();
        }
    }

    static void row(String what, NoiseRing ring, int r, long... due) {
        for (int i = 0; i < 16; i++) {
            same(what + ", coefficient " + i, ring.get(r, i), i < due.length ? due[i] : 0);
        }
    }

    static NoiseRing ring(int kind) {
        NoiseRing ring = new NoiseRing();
        ring.begin(kind);
        return ring;
    }

    static void fill(NoiseRing ring, int r, int... v) {
        for (int i = 0; i < 16; i++) {
            ring.set(r, i, i < v.length ? v[i] : 0);
        }
    }

    /** What a call makes of each x, 16 of them on a new object at a time, and that it counts those not 0. */
    static void each(String what, int kind, long[] xs, long[] due, Shape shape) {
        for (int from = 0; from < xs.length; from += 16) {
            NoiseRing ring = ring(kind);
            int many = Math.min(16, xs.length - from);
            int found = 0;
            for (int i = 0; i < many; i++) {
                ring.set(0, i, Math.toIntExact(xs[from + i]));
                found += due[from + i] != 0 ? 1 : 0;
            }
            same(what + ": how many are not 0", shape.into(ring, 1), found);
            for (int i = 0; i < many; i++) {
                long right = Math.floorMod(due[from + i], (long) Q[kind]);
                same(what + " of " + xs[from + i], ring.get(1, i), right);
            }
        }
    }

    static int mostBits(int kind) {
        return kind == 0 ? 11 : 22;
    }

    static List<Integer> alphas(int kind) {
        List<Integer> all = new ArrayList<>();
        for (int alpha = 2; alpha < Q[kind]; alpha += 2) {
            if ((Q[kind] - 1) % alpha == 0) {
                all.add(alpha);
            }
        }
        return all;
    }

    /** All that a caller can see of the registers and the kind. */
    static String state(NoiseRing ring) {
        StringBuilder text = new StringBuilder();
        for (int what = 0; what < 4; what++) {
            text.append(ring.count(what)).append(' ');
        }
        for (int r = 0; r < 12; r++) {
            for (int i = 0; i < 16; i++) {
                text.append(ring.get(r, i)).append(' ');
            }
        }
        return text.toString();
    }

    static void end(String test) {
        System.out.println(test + ": " + asked + " answers, " + wrong + " of them wrong");
        if (wrong != 0 || asked == 0) {
            System.exit(1);
        }
    }
}
