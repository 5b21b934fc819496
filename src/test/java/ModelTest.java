import java.util.Random;

/** All promises: chance runs of calls, each answer and all registers held against the model. */
final class ModelTest {
    private static final int RUNS = 6000;
    private static final int MOST_CALLS = 512;
    private static final int DEAREST_STEP = 40;
    private static final int LAST_LOOK = 12 * 16;

    private final Random random;
    private final NoiseRing ring = new NoiseRing();
    private final int[] used = new int[4];
    private long[][] r = new long[12][16];
    private int kind = 0;
    private int calls = 0;

    private ModelTest(int seed) {
        random = new Random(seed);
        for (int k = 0; k < used.length; k++) {
            used[k] = random.nextInt(12);
        }
    }

    public static void main(String[] args) {
        for (int run = 0; run < RUNS; run++) {
            new ModelTest(run).run("run " + run, run % 2);
        }
        Check.end("ModelTest");
    }

    private void run(String what, int firstKind) {
        if (firstKind == 1) {
            begin(what, 1);
        }
        setAll(used[0]);
        setAll(used[1]);
        while (calls + DEAREST_STEP + LAST_LOOK <= MOST_CALLS) {
            int to = oneOfUsed();
            step(what + ", call " + calls, to, oneOfUsed(), oneOfUsed());
            look(what + ", call " + calls, to);
        }
        for (int k = 0; k < 12; k++) {
            look(what + " at last", k);
        }
        Check.yes("the calls are within what is promised", calls <= MOST_CALLS);
    }

    private int oneOfUsed() {
        return used[random.nextInt(used.length)];
    }

    private void look(String what, int k) {
        calls += 16;
        for (int i = 0; i < 16; i++) {
            Check.same(what + ", register " + k + ", coefficient " + i, ring.get(k, i), r[k][i]);
        }
    }

    private void step(String what, int to, int a, int b) {
        calls++;
        switch (random.nextInt(14)) {
            case 0:
                setAll(to);
                break;
            case 1: case 2: case 3:
                join(what + " join", to, random.nextInt(3), a, b);
                break;
            case 4: case 5: case 6:
                round(what + " round", to, random.nextInt(4), a, 1 + random.nextInt(kind == 0 ? 11 : 22));
                break;
            case 7:
                part(what + " part", to, a, alpha(), random.nextBoolean());
                break;
            case 8:
                hint(what + " hint", to, a, b, alpha());
                break;
            case 9:
                use(what + " use", to, a, b, alpha());
                break;
            case 10:
                noise(what + " noise", to, 1 + random.nextInt(3), random.nextLong(), random.nextLong());
                break;
            case 11:
                ask(what, a, b);
                break;
            case 12:
                notUnit(what, to);
                break;
            default:
                begin(what, random.nextInt(2));
                setAll(to);
                break;
        }
    }

    private int q() {
        return Check.Q[kind];
    }

    private int alpha() {
        int alpha = 2 * (1 + random.nextInt((q() - 1) / 2));
        while ((q() - 1) % alpha != 0) {
            alpha -= 2;
        }
        int half = q() - 1;
        for (int i = random.nextInt(8); i > 0 && half % 4 == 0; i--) {
            half /= 2;
        }
        return random.nextInt(4) == 0 ? alpha : half;
    }

    private void setAll(int to) {
        calls += 16;
        for (int i = 0; i < 16; i++) {
            int v = random.nextInt(3) == 0 ? random.nextInt(5) - 2 : random.nextInt();
            Check.same("set", ring.set(to, i, v), r[to][i]);
            r[to][i] = Math.floorMod((long) v, (long) q());
        }
    }

    private void join(String what, int to, int op, int a, int b) {
        long[] due = new long[16];
        for (int i = 0; i < 16; i++) {
            due[i] = Math.floorMod(op == 0 ? r[a][i] + r[b][i] : r[a][i] - r[b][i], (long) q());
        }
        r[to] = op == 2 ? Model.times(kind, r[a], r[b]) : due;
        Check.same(what, ring.join(to, op, a, b), greatest(r[to]));
    }

    private void round(String what, int to, int op, int a, int d) {
        long[] due = new long[16];
        for (int i = 0; i < 16; i++) {
            due[i] = Model.rounded(kind, op, r[a][i], d);
        }
        r[to] = due;
        Check.same(what, ring.round(to, op, a, d), notZero(due));
    }

    private void part(String what, int to, int a, int alpha, boolean high) {
        long[] due = new long[16];
        for (int i = 0; i < 16; i++) {
            long[] both = Model.partAndRest(kind, r[a][i], alpha);
            due[i] = high ? both[0] : Math.floorMod(both[1], (long) q());
        }
        r[to] = due;
        Check.same(what, ring.part(to, a, alpha, high), notZero(due));
    }

    private void hint(String what, int to, int a, int b, int alpha) {
        long[] due = new long[16];
        for (int i = 0; i < 16; i++) {
            long one = Model.partAndRest(kind, r[a][i], alpha)[0];
            long both = Model.partAndRest(kind, (r[a][i] + r[b][i]) % q(), alpha)[0];
            due[i] = one == both ? 0 : 1;
        }
        r[to] = due;
        Check.same(what, ring.hint(to, a, b, alpha), notZero(due));
    }

    private void use(String what, int to, int a, int b, int alpha) {
        long[] due = new long[16];
        int changed = 0;
        long parts = (q() - 1) / alpha;
        for (int i = 0; i < 16; i++) {
            long[] both = Model.partAndRest(kind, r[a][i], alpha);
            due[i] = both[0];
            if (r[b][i] != 0) {
                due[i] = (both[0] + (both[1] > 0 ? 1 : parts - 1)) % parts;
            }
            changed += due[i] != both[0] ? 1 : 0;
        }
        r[to] = due;
        Check.same(what, ring.use(to, a, b, alpha), changed);
    }

    private void noise(String what, int to, int eta, long low, long high) {
        StringBuilder bits = new StringBuilder();
        for (int i = 0; i < 64; i++) {
            bits.append(low >>> i & 1);
        }
        for (int i = 0; i < 64; i++) {
            bits.append(high >>> i & 1);
        }
        long[] due = new long[16];
        int next = 0;
        for (int i = 0; i < 16; i++) {
            for (int k = 0; k < 2 * eta; k++) {
                due[i] += (bits.charAt(next++) - '0') * (k < eta ? 1 : -1);
            }
            due[i] = Math.floorMod(due[i], (long) q());
        }
        r[to] = due;
        Check.same(what, ring.noise(to, eta, low, high), notZero(due));
    }

    private void ask(String what, int a, int b) {
        calls += 22;
        Check.same(what + " size", ring.size(a), greatest(r[a]));
        long far = 0;
        int empty = 0;
        for (int i = 0; i < 16; i++) {
            far += Model.size(kind, r[a][i] - r[b][i]);
            Check.same(what + " value", ring.value(a, i), Model.value(kind, r[a], i));
        }
        for (int k = 0; k < 12; k++) {
            empty += notZero(r[k]) == 0 ? 1 : 0;
        }
        Check.same(what + " far", ring.far(a, b), far);
        Check.same(what + " unit", ring.unit(a) ? 1 : 0, Model.unit(kind, r[a]) ? 1 : 0);
        Check.same(what + " count(0)", ring.count(0), kind);
        Check.same(what + " count(1)", ring.count(1), q());
        Check.same(what + " count(2)", ring.count(2), Model.z(kind));
        Check.same(what + " count(3)", ring.count(3), empty);
    }

    /** Takes the value at one zero of x^16 + 1 away from a polynomial, which so is no unit. */
    private void notUnit(String what, int to) {
        long zero = Model.power(kind == 0 ? 17 : 1753, (kind == 0 ? 8 : 16) * (2 * random.nextInt(16) + 1), q());
        long sum = 0;
        for (int k = 15; k >= 0; k--) {
            sum = (sum * zero + r[to][k]) % q();
        }
        r[to][0] = Math.floorMod(r[to][0] - sum, (long) q());
        ring.set(to, 0, (int) r[to][0]);
        calls++;
        Check.no(what + " unit", ring.unit(to));
        Check.no(what + " unit of the model", Model.unit(kind, r[to]));
    }

    private void begin(String what, int newKind) {
        kind = newKind;
        calls++;
        r = new long[12][16];
        Check.same(what + " begin", ring.begin(kind), q());
    }

    private long greatest(long[] row) {
        long greatest = 0;
        for (long x : row) {
            greatest = Math.max(greatest, Model.size(kind, x));
        }
        return greatest;
    }

    private static int notZero(long[] row) {
        int found = 0;
        for (long x : row) {
            found += x != 0 ? 1 : 0;
        }
        return found;
    }
}
