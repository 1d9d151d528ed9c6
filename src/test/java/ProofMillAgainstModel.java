import java.math.BigInteger;
import java.util.ArrayList;
import java.util.List;
import java.util.Random;

/**
 * Long runs of calls, drawn from fixed seeds, on a ProofMill and on a model written from the document's words
 * by the slow schoolbook way (Lagrange's formula, long division, big integers). Every answer must be the same.
 */
public final class ProofMillAgainstModel {
    static final int P = 998244353;
    static final int OBJECTS = 300;
    static final int CALLS = 512;

    static int wrong = 0;
    static final int[] proofsBySize = new int[17];
    static int verifiedTrue = 0;
    static int verifiedFalse = 0;
    static final int[] thrown = new int[3];

    interface Call {
        long on(ProofMill mill);
    }

    interface ModelCall {
        long on(Model model);
    }

    public static void main(String[] args) {
        for (int seed = 1; seed <= OBJECTS; seed++) {
            new Run(seed).go();
        }
        checkReach();
        System.out.println(wrong == 0 ? "the model agrees" : wrong + " answers differ from the model's");
        if (wrong != 0) {
            System.exit(1);
        }
    }

    /** A run that never proves or never throws would agree with anything: the draws must reach what they are for. */
    static void checkReach() {
        for (int n = 2; n <= 16; n *= 2) {
            reached("proofs with N " + n, proofsBySize[n]);
        }
        reached("proofs that verify", verifiedTrue);
        reached("proofs that do not verify", verifiedFalse);
        reached("IllegalArgumentException", thrown[0]);
        reached("IllegalStateException", thrown[1]);
        reached("ArithmeticException", thrown[2]);
    }

    static void reached(String what, int times) {
        if (times < 20) {
            wrong++;
            System.out.println("the runs reach too little of: " + what + " (" + times + ")");
        }
    }

    static final long IAE = -1001;
    static final long ISE = -1002;
    static final long AE = -1003;

    static long answer(Call call, ProofMill mill) {
        try {
            return call.on(mill);
        } catch (IllegalArgumentException e) {
            return IAE;
        } catch (IllegalStateException e) {
            return ISE;
        } catch (ArithmeticException e) {
            return AE;
        }
    }

    static long answer(ModelCall call, Model model) {
        try {
            return call.on(model);
        } catch (IllegalArgumentException e) {
            return IAE;
        } catch (IllegalStateException e) {
            return ISE;
        } catch (ArithmeticException e) {
            return AE;
        }
    }

    static long bit(boolean b) {
        return b ? 1 : 0;
    }

    static final class Run {
        final int seed;
        final Random random;
        final ProofMill mill = new ProofMill();
        final Model model = new Model();
        final int fullness;
        int calls = 0;

        Run(int seed) {
            this.seed = seed;
            this.random = new Random(seed);
            this.fullness = random.nextInt(17);
        }

        void go() {
            lookAtAll();
            while (calls < CALLS) {
                step();
            }
        }

        long same(String name, Call call, ModelCall modelCall) {
            if (calls >= CALLS) {
                return 0;
            }
            calls++;
            long got = answer(call, mill);
            long want = answer(modelCall, model);
            if (got != want) {
                wrong++;
                if (wrong < 40) {
                    System.out.println("seed " + seed + ", call " + calls + ": " + name + " answered " + got + ", due is " + want);
                }
            }
            if (got == IAE) thrown[0]++;
            if (got == ISE) thrown[1]++;
            if (got == AE) thrown[2]++;
            return got;
        }

        void step() {
            switch (random.nextInt(20)) {
                case 0: case 1: fulfilledConstraint(); break;
                case 2: term(around(3), around(16), number()); break;
                case 3: if (random.nextInt(6) == 0) constraint(); break;
                case 4: if (random.nextInt(3) == 0) publics(around(7)); break;
                case 5: if (random.nextInt(3) == 0) value(around(16), number()); break;
                case 6: open(); break;
                case 7: setup(unit(), unit(), unit(), unit(), unit()); break;
                case 8: case 9: prove(number(), number()); break;
                case 10: if (random.nextInt(2) == 0) alter(around(3), number()); break;
                case 11: input(around(7), number()); break;
                case 12: truthfulInputs(); verify(); break;
                case 13: verify(); break;
                case 14: proof(around(3)); break;
                case 15: quotient(around(16)); break;
                case 16: polynomial(around(3), around(16), around(model.n())); break;
                case 17: key(around(3), around(random.nextBoolean() ? 16 : model.n())); break;
                case 18: about(around(5)); break;
                default: honestRound(); break;
            }
        }

        /** An index, mostly good, now and then at or past an edge. */
        int around(int bound) {
            switch (random.nextInt(14)) {
                case 0: return -1;
                case 1: return bound;
                case 2: return bound - 1;
                case 3: return random.nextInt(3) == 0 ? random.nextInt() : 0;
                default: return random.nextInt(bound);
            }
        }

        int number() {
            switch (random.nextInt(24)) {
                case 0: return -1;
                case 1: return P;
                case 2: return P - 1;
                case 3: return random.nextInt(3) == 0 ? random.nextInt() : 1;
                default: return fine();
            }
        }

        int fine() {
            switch (random.nextInt(6)) {
                case 0: return 0;
                case 1: return P - 1 - random.nextInt(3);
                case 2: return random.nextInt(5);
                default: return random.nextInt(P);
            }
        }

        int unit() {
            switch (random.nextInt(40)) {
                case 0: return 0;
                case 1: return P;
                case 2: return -1;
                case 3: case 4: return P - 1;
                case 5: case 6: return 1;
                case 7: case 8: return (int) Model.pow(3, (P - 1) / (2L << random.nextInt(5)) * (1 + random.nextInt(4)));
                default: return 1 + random.nextInt(P - 1);
            }
        }

        int goodUnit() {
            return 2 + random.nextInt(P - 3);
        }

        /** Row 2 is balanced by variable 0 (or another that is not 0) so that the values fulfil the new constraint. */
        void fulfilledConstraint() {
            if (model.constraints.size() >= fullness && random.nextInt(4) != 0) {
                return;
            }
            for (int t = random.nextInt(4) + 1; t > 0; t--) {
                term(random.nextInt(3), random.nextInt(16), fine());
                term(random.nextInt(2), random.nextInt(16), fine());
            }
            long product = model.rowSum(model.draft, 0) * model.rowSum(model.draft, 1) % P;
            long lacking = Math.floorMod(product - model.rowSum(model.draft, 2), (long) P);
            int variable = random.nextInt(16);
            if (model.values[variable] == 0) {
                variable = 0;
            }
            long c = lacking * Model.pow(model.values[variable], P - 2) % P;
            term(2, variable, (int) c);
            constraint();
        }

        void honestRound() {
            setup(goodUnit(), goodUnit(), goodUnit(), goodUnit(), goodUnit());
            prove(fine(), fine());
            truthfulInputs();
            verify();
            proof(0);
            proof(1);
            proof(2);
            quotient(random.nextInt(model.n()));
            polynomial(random.nextInt(3), random.nextInt(16), random.nextInt(model.n()));
            key(0, random.nextInt(model.n()));
            key(1, random.nextInt(16));
            key(2, random.nextInt(model.n()));
        }

        void truthfulInputs() {
            for (int i = 1; i <= model.publics; i++) {
                input(i, (int) model.values[i]);
            }
        }

        void lookAtAll() {
            for (int k = -1; k <= 5; k++) about(k);
            for (int k = -1; k <= 3; k++) proof(k);
            quotient(0);
            polynomial(0, 0, 0);
            polynomial(2, 15, 1);
            polynomial(2, 15, 2);
            key(0, 0);
            open();
        }

        void term(int row, int variable, int c) {
            same("term(" + row + ", " + variable + ", " + c + ")", m -> m.term(row, variable, c), m -> m.term(row, variable, c));
        }

        void constraint() {
            same("constraint()", m -> m.constraint(), m -> m.constraint());
        }

        void publics(int n) {
            same("publics(" + n + ")", m -> bit(m.publics(n)), m -> bit(m.publics(n)));
        }

        void value(int variable, int v) {
            same("value(" + variable + ", " + v + ")", m -> bit(m.value(variable, v)), m -> bit(m.value(variable, v)));
        }

        void open() {
            same("open()", m -> m.open(), m -> m.open());
        }

        void setup(int t, int a, int b, int g, int d) {
            same("setup(" + t + ", " + a + ", " + b + ", " + g + ", " + d + ")", m -> m.setup(t, a, b, g, d), m -> m.setup(t, a, b, g, d));
        }

        void prove(int r, int s) {
            long got = same("prove(" + r + ", " + s + ")", m -> bit(m.prove(r, s)), m -> bit(m.prove(r, s)));
            if (got == 1) proofsBySize[model.n()]++;
        }

        void alter(int k, int v) {
            same("alter(" + k + ", " + v + ")", m -> bit(m.alter(k, v)), m -> bit(m.alter(k, v)));
        }

        void input(int i, int v) {
            same("input(" + i + ", " + v + ")", m -> bit(m.input(i, v)), m -> bit(m.input(i, v)));
        }

        void verify() {
            long got = same("verify()", m -> bit(m.verify()), m -> bit(m.verify()));
            if (got == 1) verifiedTrue++;
            if (got == 0) verifiedFalse++;
        }

        void proof(int k) {
            same("proof(" + k + ")", m -> m.proof(k), m -> m.proof(k));
        }

        void quotient(int k) {
            same("quotient(" + k + ")", m -> m.quotient(k), m -> m.quotient(k));
        }

        void polynomial(int row, int variable, int k) {
            same("polynomial(" + row + ", " + variable + ", " + k + ")", m -> m.polynomial(row, variable, k), m -> m.polynomial(row, variable, k));
        }

        void key(int what, int i) {
            same("key(" + what + ", " + i + ")", m -> m.key(what, i), m -> m.key(what, i));
        }

        void about(int what) {
            same("about(" + what + ")", m -> m.about(what), m -> m.about(what));
        }
    }

    /** The document, word by word. */
    static final class Model {
        final List<long[][]> constraints = new ArrayList<>();
        long[][] draft = new long[3][16];
        final long[] values = new long[16];
        final long[] inputs = new long[7];
        int publics = 0;
        long[] key = null;
        long[] proof = null;
        long[] quotient = null;

        Model() {
            values[0] = 1;
            inputs[0] = 1;
        }

        static long pow(long base, long exponent) {
            return BigInteger.valueOf(base).modPow(BigInteger.valueOf(exponent), BigInteger.valueOf(P)).longValueExact();
        }

        static long inverse(long a) {
            return BigInteger.valueOf(a).modInverse(BigInteger.valueOf(P)).longValueExact();
        }

        static long mod(long a) {
            return Math.floorMod(a, (long) P);
        }

        static void argument(boolean good) {
            if (!good) throw new IllegalArgumentException();
        }

        static boolean within(long a, long low, long high) {
            return low <= a && a <= high;
        }

        int n() {
            int n = 2;
            while (n < constraints.size()) n *= 2;
            return n;
        }

        long rowSum(long[][] constraint, int row) {
            long sum = 0;
            for (int i = 0; i < 16; i++) sum = mod(sum + constraint[row][i] * values[i]);
            return sum;
        }

        static long[] times(long[] a, long[] b) {
            long[] c = new long[a.length + b.length - 1];
            for (int i = 0; i < a.length; i++)
                for (int j = 0; j < b.length; j++) c[i + j] = mod(c[i + j] + a[i] * b[j]);
            return c;
        }

        static long at(long[] polynomial, long x) {
            long sum = 0;
            for (int k = 0; k < polynomial.length; k++) sum = mod(sum + polynomial[k] * pow(x, k));
            return sum;
        }

        /** Lagrange: for each point the product of (X - other point) / (point - other point). */
        static long[] through(long[] atPoints) {
            int n = atPoints.length;
            long w = pow(3, (P - 1) / n);
            long[] sum = new long[n];
            for (int j = 0; j < n; j++) {
                if (atPoints[j] == 0) continue;
                long[] basis = {atPoints[j]};
                for (int m = 0; m < n; m++) {
                    if (m == j) continue;
                    long over = inverse(mod(pow(w, j) - pow(w, m)));
                    basis = times(basis, new long[] {mod(-pow(w, m) * over), over});
                }
                for (int k = 0; k < n; k++) sum[k] = mod(sum[k] + basis[k]);
            }
            return sum;
        }

        long[] poly(int row, int variable) {
            long[] atPoints = new long[n()];
            for (int j = 0; j < constraints.size(); j++) atPoints[j] = constraints.get(j)[row][variable];
            return through(atPoints);
        }

        long[] weighted(int row) {
            long[] sum = new long[n()];
            for (int i = 0; i < 16; i++) {
                long[] polynomial = poly(row, i);
                for (int k = 0; k < n(); k++) sum[k] = mod(sum[k] + values[i] * polynomial[k]);
            }
            return sum;
        }

        long t() {
            return mod(pow(key[0], n()) - 1);
        }

        long mix(int i) {
            return mod(mod(key[2] * at(poly(0, i), key[0])) + mod(key[1] * at(poly(1, i), key[0])) + at(poly(2, i), key[0]));
        }

        int term(int row, int variable, int c) {
            argument(within(row, 0, 2) && within(variable, 0, 15) && within(c, 0, P - 1));
            draft[row][variable] = mod(draft[row][variable] + c);
            return (int) draft[row][variable];
        }

        int constraint() {
            if (constraints.size() == 16) throw new IllegalStateException();
            constraints.add(draft);
            draft = new long[3][16];
            key = null;
            return constraints.size() - 1;
        }

        boolean publics(int n) {
            argument(within(n, 0, 6));
            publics = n;
            key = null;
            return true;
        }

        boolean value(int variable, int v) {
            argument(within(variable, 1, 15) && within(v, 0, P - 1));
            values[variable] = v;
            return true;
        }

        int open() {
            for (int j = 0; j < constraints.size(); j++) {
                long[][] c = constraints.get(j);
                if (mod(rowSum(c, 0) * rowSum(c, 1)) != rowSum(c, 2)) return j;
            }
            return -1;
        }

        int setup(int... five) {
            for (int number : five) argument(within(number, 1, P - 1));
            if (pow(five[0], n()) == 1) throw new ArithmeticException();
            key = new long[] {five[0], five[1], five[2], five[3], five[4]};
            return n();
        }

        boolean prove(int r, int s) {
            argument(within(r, 0, P - 1) && within(s, 0, P - 1));
            if (key == null) throw new IllegalStateException();
            if (open() != -1) throw new ArithmeticException();
            long[] u = weighted(0);
            long[] v = weighted(1);
            long[] y = weighted(2);
            long[] rest = times(u, v);
            for (int k = 0; k < n(); k++) rest[k] = mod(rest[k] - y[k]);
            long[] h = new long[16];
            for (int k = rest.length - 1; k >= n(); k--) {
                h[k - n()] = rest[k];
                rest[k - n()] = mod(rest[k - n()] + rest[k]);
                rest[k] = 0;
            }
            for (long left : rest) if (left != 0) throw new AssertionError("the model's division leaves a rest");
            long tau = key[0], delta = key[4];
            long a = mod(key[1] + at(u, tau) + mod(r * delta));
            long b = mod(key[2] + at(v, tau) + mod(s * delta));
            long hidden = mod(at(h, tau) * t());
            for (int i = publics + 1; i < 16; i++) hidden = mod(hidden + values[i] * mix(i));
            long c = mod(mod(hidden * inverse(delta)) + mod(a * s) + mod(b * r) - mod(mod((long) r * s) * delta));
            proof = new long[] {a, b, c};
            quotient = h;
            return true;
        }

        boolean alter(int k, int v) {
            argument(within(k, 0, 2) && within(v, 0, P - 1));
            if (proof == null) throw new IllegalStateException();
            proof[k] = v;
            return true;
        }

        boolean input(int i, int v) {
            argument(within(i, 1, 6) && within(v, 0, P - 1));
            inputs[i] = v;
            return true;
        }

        boolean verify() {
            if (key == null || proof == null) throw new IllegalStateException();
            long due = mod(mod(key[1] * key[2]) + mod(proof[2] * key[4]));
            for (int i = 0; i <= publics; i++) due = mod(due + inputs[i] * mix(i));
            return mod(proof[0] * proof[1]) == due;
        }

        int proof(int k) {
            return proof != null && within(k, 0, 2) ? (int) proof[k] : -1;
        }

        int quotient(int k) {
            return proof != null && within(k, 0, 15) ? (int) quotient[k] : -1;
        }

        int polynomial(int row, int variable, int k) {
            if (!within(row, 0, 2) || !within(variable, 0, 15) || !within(k, 0, n() - 1)) return -1;
            return (int) poly(row, variable)[k];
        }

        int key(int what, int i) {
            if (key == null) return -1;
            if (what == 0 && within(i, 0, n() - 1)) return (int) pow(key[0], i);
            if (what == 1 && within(i, 0, 15)) return (int) mod(mix(i) * inverse(i <= publics ? key[3] : key[4]));
            if (what == 2 && within(i, 0, n() - 2)) return (int) mod(mod(pow(key[0], i) * t()) * inverse(key[4]));
            return -1;
        }

        int about(int what) {
            switch (what) {
                case 0: return constraints.size();
                case 1: return n();
                case 2: return publics;
                case 3: return key != null ? 1 : 0;
                case 4: return proof != null ? 1 : 0;
                default: return -1;
            }
        }
    }
}
