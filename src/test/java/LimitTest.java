import java.util.Arrays;

/**
 * Every argument of every call: the last values that are taken, the first that are refused on each side, which
 * exception comes first, and that what throws changes nothing.
 */
final class LimitTest {
    private enum Limit {
        REGISTER, PLACE, KIND, JOIN, ROUND, WIDTH, ALPHA, ETA, FREE;

        int least() {
            return this == FREE ? Integer.MIN_VALUE : this == ALPHA ? 2 : this == WIDTH || this == ETA ? 1 : 0;
        }

        int greatest(int kind) {
            switch (this) {
                case REGISTER: return 11;
                case PLACE: return 15;
                case KIND: return 1;
                case JOIN: return 2;
                case ROUND: return 3;
                case WIDTH: return kind == 0 ? 11 : 22;
                case ALPHA: return Check.Q[kind] - 1;
                case ETA: return 3;
                default: return Integer.MAX_VALUE;
            }
        }

        /** Farther out: what an overflow or a shift by too much would let in. */
        int[] farOut(int kind) {
            int q = Check.Q[kind];
            switch (this) {
                case WIDTH:
                    return new int[] {-11, 23, 31, 32, 33, 63, 64, 65, 1 << 16};
                case ALPHA:
                    return new int[] {0, -1, -2, 3, 13, 33, 10, q - 2, q + 1, 2 * (q - 1), 1 - q, 16384,
                        kind == 0 ? 190464 : 26, 1 << 30};
                default:
                    return new int[] {greatest(kind) + 2, -greatest(kind), 1 << 16, 1 << 8};
            }
        }

        boolean isNoSuch() {
            return this == REGISTER || this == PLACE;
        }
    }

    private interface Body {
        long call(NoiseRing x, int... v);
    }

    private enum Face {
        BEGIN((x, v) -> x.begin(v[0]), Limit.KIND),
        SET((x, v) -> x.set(v[0], v[1], v[2]), Limit.REGISTER, Limit.PLACE, Limit.FREE),
        GET((x, v) -> x.get(v[0], v[1]), Limit.REGISTER, Limit.PLACE),
        JOIN((x, v) -> x.join(v[0], v[1], v[2], v[3]), Limit.REGISTER, Limit.JOIN, Limit.REGISTER, Limit.REGISTER),
        ROUND((x, v) -> x.round(v[0], v[1], v[2], v[3]), Limit.REGISTER, Limit.ROUND, Limit.REGISTER, Limit.WIDTH),
        PART((x, v) -> x.part(v[0], v[1], v[2], v[3] > 0), Limit.REGISTER, Limit.REGISTER, Limit.ALPHA, Limit.FREE),
        HINT((x, v) -> x.hint(v[0], v[1], v[2], v[3]), Limit.REGISTER, Limit.REGISTER, Limit.REGISTER, Limit.ALPHA),
        USE((x, v) -> x.use(v[0], v[1], v[2], v[3]), Limit.REGISTER, Limit.REGISTER, Limit.REGISTER, Limit.ALPHA),
        SIZE((x, v) -> x.size(v[0]), Limit.REGISTER),
        FAR((x, v) -> x.far(v[0], v[1]), Limit.REGISTER, Limit.REGISTER),
        NOISE((x, v) -> x.noise(v[0], v[1], wide(v[2]), wide(v[3])),
            Limit.REGISTER, Limit.ETA, Limit.FREE, Limit.FREE),
        VALUE((x, v) -> x.value(v[0], v[1]), Limit.REGISTER, Limit.PLACE),
        UNIT((x, v) -> x.unit(v[0]) ? 1 : 0, Limit.REGISTER),
        COUNT((x, v) -> x.count(v[0]), Limit.FREE);

        final Body body;
        final Limit[] limits;

        Face(Body body, Limit... limits) {
            this.body = body;
            this.limits = limits;
        }
    }

    public static void main(String[] args) {
        for (int kind = 0; kind < 2; kind++) {
            int k = kind;
            for (Face face : Face.values()) {
                Check.sentence(face + ": the last that are taken", () -> taken(k, face));
                if (face != Face.COUNT) {
                    Check.sentence(face + ": the first that are refused", () -> refused(k, face));
                    Check.sentence(face + ": in this order", () -> order(k, face));
                }
            }
        }
        Check.end("LimitTest");
    }

    private static long wide(int v) {
        return v < 0 ? Long.MIN_VALUE : Long.MAX_VALUE;
    }

    /** All registers full of numbers that are known, so that a look at them all stays within an object's 512 calls. */
    private static NoiseRing full(int kind) {
        NoiseRing x = Check.ring(kind);
        for (int r = 0; r < 12; r++) {
            for (int i = 0; i < 16; i++) {
                x.set(r, i, known(r, i));
            }
        }
        return x;
    }

    private static int known(int r, int i) {
        return 1 + r * 131 + i * 7;
    }

    private static String fullState(int kind) {
        StringBuilder text = new StringBuilder();
        text.append(kind).append(' ').append(Check.Q[kind]).append(' ').append(Model.z(kind)).append(" 0 ");
        for (int r = 0; r < 12; r++) {
            for (int i = 0; i < 16; i++) {
                text.append(known(r, i)).append(' ');
            }
        }
        return text.toString();
    }

    private static int[] leasts(Face face) {
        int[] v = new int[face.limits.length];
        for (int k = 0; k < v.length; k++) {
            v[k] = face.limits[k].least();
        }
        return v;
    }

    private static int[] with(int[] v, int k, int value) {
        int[] other = v.clone();
        other[k] = value;
        return other;
    }

    /** The least and the greatest of each argument, beside the least and beside the greatest of the others. */
    private static void taken(int kind, Face face) {
        int[] least = leasts(face);
        int[] greatest = least.clone();
        for (int k = 0; k < greatest.length; k++) {
            greatest[k] = face.limits[k].greatest(kind);
        }
        goes(kind, face, least);
        goes(kind, face, greatest);
        for (int k = 0; k < least.length; k++) {
            goes(kind, face, with(least, k, greatest[k]));
            goes(kind, face, with(greatest, k, least[k]));
        }
    }

    private static void goes(int kind, Face face, int[] v) {
        NoiseRing x = full(kind);
        Check.goes(name(kind, face, v), () -> face.body.call(x, v));
    }

    private static void refused(int kind, Face face) {
        int[] least = leasts(face);
        for (int k = 0; k < least.length; k++) {
            Limit limit = face.limits[k];
            if (limit == Limit.FREE) {
                continue;
            }
            boolean noSuch = limit.isNoSuch();
            ends(kind, face, with(least, k, limit.least() - 1), noSuch);
            ends(kind, face, with(least, k, limit.greatest(kind) + 1), noSuch);
            ends(kind, face, with(least, k, Integer.MIN_VALUE), noSuch);
            ends(kind, face, with(least, k, Integer.MAX_VALUE), noSuch);
            for (int value : limit.farOut(kind)) {
                ends(kind, face, with(least, k, value), noSuch);
            }
        }
    }

    /** Each set of arguments wrong at once: one register or coefficient among them is told of first. */
    private static void order(int kind, Face face) {
        int many = face.limits.length;
        for (int set = 1; set < 1 << many; set++) {
            int[] below = leasts(face);
            int[] above = leasts(face);
            boolean noSuch = false;
            boolean free = false;
            for (int k = 0; k < many; k++) {
                if ((set >> k & 1) != 0) {
                    free |= face.limits[k] == Limit.FREE;
                    noSuch |= face.limits[k].isNoSuch();
                    below[k] = face.limits[k].least() - 1;
                    above[k] = face.limits[k].greatest(kind) + 1;
                }
            }
            if (!free) {
                ends(kind, face, below, noSuch);
                ends(kind, face, above, noSuch);
            }
        }
    }

    private static void ends(int kind, Face face, int[] v, boolean noSuch) {
        NoiseRing x = full(kind);
        String what = name(kind, face, v);
        if (noSuch) {
            Check.noSuch(what, () -> face.body.call(x, v));
        } else {
            Check.illegal(what, () -> face.body.call(x, v));
        }
        Check.yes(what + " changes nothing", fullState(kind).equals(Check.state(x)));
    }

    private static String name(int kind, Face face, int[] v) {
        return "KIND " + kind + " " + face + Arrays.toString(v);
    }
}
