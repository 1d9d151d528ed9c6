/** Each promise of the document by name: ordinary inputs, the edges it names, wrong inputs. */
public final class ProofMillPromises {
    static final int P = 998244353;
    static final int[] NO_NUMBERS = {-1, P, P + 1, Integer.MIN_VALUE, Integer.MAX_VALUE};

    static int wrong = 0;
    static String promise = "";

    interface Call {
        Object go();
    }

    static void due(String call, Object got, Object want) {
        if (!got.equals(want)) {
            wrong++;
            System.out.println(promise + ": " + call + " answered " + got + ", due is " + want);
        }
    }

    static Object outcome(Call call) {
        try {
            return call.go();
        } catch (RuntimeException e) {
            return e.getClass().getName().replace("java.lang.", "throws.");
        }
    }

    static void argument(String call, Call refused) {
        due(call, outcome(refused), "throws.IllegalArgumentException");
    }

    static void state(String call, Call refused) {
        due(call, outcome(refused), "throws.IllegalStateException");
    }

    static void arithmetic(String call, Call refused) {
        due(call, outcome(refused), "throws.ArithmeticException");
    }

    static int mod(long a) {
        return (int) Math.floorMod(a, (long) P);
    }

    static int inverse(long a) {
        return java.math.BigInteger.valueOf(a).modInverse(java.math.BigInteger.valueOf(P)).intValueExact();
    }

    static int pow(long a, long e) {
        return java.math.BigInteger.valueOf(a).modPow(java.math.BigInteger.valueOf(e), java.math.BigInteger.valueOf(P)).intValueExact();
    }

    /** x2 * x2 = x1, x1 public, 3 * 3 = 9. */
    static ProofMill square() {
        ProofMill x = new ProofMill();
        x.publics(1);
        x.value(2, 3);
        x.value(1, 9);
        x.term(0, 2, 1);
        x.term(1, 2, 1);
        x.term(2, 1, 1);
        x.constraint();
        return x;
    }

    static ProofMill keyedSquare() {
        ProofMill x = square();
        x.setup(5, 7, 11, 13, 17);
        return x;
    }

    static ProofMill provenSquare() {
        ProofMill x = keyedSquare();
        x.prove(1, 2);
        x.input(1, 9);
        return x;
    }

    static void addConstraints(ProofMill x, int count) {
        for (int j = 0; j < count; j++) {
            x.constraint();
        }
    }

    public static void main(String[] args) {
        newObject();
        term();
        constraint();
        publics();
        value();
        open();
        setup();
        prove();
        alter();
        input();
        verify();
        proof();
        quotient();
        polynomial();
        key();
        about();
        System.out.println(wrong == 0 ? "all promises hold" : wrong + " answers are not as due");
        if (wrong != 0) {
            System.exit(1);
        }
    }

    static void newObject() {
        promise = "promise 1";
        ProofMill x = new ProofMill();
        due("NONE", ProofMill.NONE, -1);
        due("about(0)", x.about(0), 0);
        due("about(1)", x.about(1), 2);
        due("about(2)", x.about(2), 0);
        due("about(3)", x.about(3), 0);
        due("about(4)", x.about(4), 0);
        due("open()", x.open(), -1);
        for (int row = 0; row < 3; row++) {
            for (int i = 0; i < 16; i++) {
                due("draft of a new object", x.term(row, i, 0), 0);
                due("polynomial of a new object", x.polynomial(row, i, 1), 0);
            }
        }
        for (int i = 0; i < 16; i++) {
            due("first value of variable " + i, firstValue(i), i == 0 ? 1 : 0);
        }
        for (int i = 0; i <= 6; i++) {
            due("first input " + i, firstInputIs(i, i == 0 ? 1 : 0), true);
        }
        ProofMill other = new ProofMill();
        x.term(0, 0, 4);
        x.value(1, 5);
        due("another object's draft", other.term(0, 0, 0), 0);
    }

    /** 1 if the value fulfils x * 1 = 1, 0 if it fulfils x * 1 = 0. */
    static int firstValue(int variable) {
        for (int v = 0; v <= 1; v++) {
            ProofMill x = new ProofMill();
            x.term(0, variable, 1);
            x.term(1, 0, 1);
            x.term(2, 0, v);
            x.constraint();
            if (x.open() == -1) {
                return v;
            }
        }
        return -2;
    }

    /**
     * With A = 0, C is chosen so that the equation holds if and only if the input is v. The proof is made before
     * the constraint comes, so that there is one to alter whatever the values are.
     */
    static boolean firstInputIs(int i, int v) {
        ProofMill x = new ProofMill();
        x.publics(6);
        x.setup(5, 7, 11, 1, 1);
        x.prove(0, 0);
        x.term(2, i, 1);
        x.constraint();
        x.setup(5, 7, 11, 1, 1);
        int mix = x.key(1, i);
        x.alter(0, 0);
        x.alter(2, mod(-77L - (long) v * mix));
        return mix != 0 && x.verify();
    }

    static void term() {
        promise = "promise 2";
        ProofMill x = new ProofMill();
        due("term(0, 0, 5)", x.term(0, 0, 5), 5);
        due("term(0, 0, 6)", x.term(0, 0, 6), 11);
        due("term(2, 15, P - 1)", x.term(2, 15, P - 1), P - 1);
        due("term(2, 15, P - 1) again", x.term(2, 15, P - 1), P - 2);
        due("term(2, 15, 2)", x.term(2, 15, 2), 0);
        due("term(1, 0, 0)", x.term(1, 0, 0), 0);
        argument("term(-1, 0, 0)", () -> x.term(-1, 0, 0));
        argument("term(3, 0, 0)", () -> x.term(3, 0, 0));
        argument("term(0, -1, 0)", () -> x.term(0, -1, 0));
        argument("term(0, 16, 0)", () -> x.term(0, 16, 0));
        argument("term(max, 0, 0)", () -> x.term(Integer.MAX_VALUE, 0, 0));
        argument("term(0, min, 0)", () -> x.term(0, Integer.MIN_VALUE, 0));
        for (int c : NO_NUMBERS) {
            argument("term(0, 0, " + c + ")", () -> x.term(0, 0, c));
        }
        due("term(0, 0, 0) after refusals", x.term(0, 0, 0), 11);
        ProofMill keyed = keyedSquare();
        keyed.term(0, 0, 1);
        due("a term leaves the key", keyed.about(3), 1);
        due("a term leaves the constraints", keyed.open(), -1);
        due("a term leaves the polynomials", keyed.polynomial(0, 0, 0), 0);
        ProofMill full = new ProofMill();
        addConstraints(full, 16);
        due("a draft beside 16 constraints", full.term(2, 15, 3), 3);
        due("a draft beside 16 constraints grows", full.term(2, 15, 3), 6);
        due("and is no constraint", full.open(), -1);
    }

    static void constraint() {
        promise = "promise 3";
        ProofMill x = new ProofMill();
        for (int j = 0; j < 16; j++) {
            for (int row = 0; row < 3; row++) {
                x.term(row, (j + row) % 16, j + 1);
            }
            due("constraint()", x.constraint(), j);
            for (int row = 0; row < 3; row++) {
                due("the draft is empty after a constraint", x.term(row, (j + row) % 16, 0), 0);
            }
        }
        x.setup(5, 7, 11, 13, 17);
        x.term(0, 0, 4);
        state("constraint() at 16", () -> x.constraint());
        due("about(0) after the refusal", x.about(0), 16);
        due("the key after the refusal", x.about(3), 1);
        due("the draft after the refusal", x.term(0, 0, 0), 4);
        ProofMill keyed = provenSquare();
        keyed.constraint();
        due("a constraint ends the key", keyed.about(3), 0);
        due("a constraint leaves the proof", keyed.about(4), 1);
        due("an empty constraint is fulfilled", keyed.open(), -1);
    }

    static void publics() {
        promise = "promise 4";
        ProofMill x = keyedSquare();
        argument("publics(-1)", () -> x.publics(-1));
        argument("publics(7)", () -> x.publics(7));
        argument("publics(max)", () -> x.publics(Integer.MAX_VALUE));
        argument("publics(min)", () -> x.publics(Integer.MIN_VALUE));
        due("a refusal leaves PUBLICS", x.about(2), 1);
        due("a refusal leaves the key", x.about(3), 1);
        due("publics(1), the same", x.publics(1), true);
        due("the same PUBLICS end the key too", x.about(3), 0);
        for (int n = 0; n <= 6; n++) {
            due("publics(" + n + ")", x.publics(n), true);
            due("about(2)", x.about(2), n);
        }
        ProofMill proven = provenSquare();
        proven.publics(0);
        due("PUBLICS leave the proof", proven.about(4), 1);
        state("verify() without a key", () -> proven.verify());
    }

    static void value() {
        promise = "promise 5";
        ProofMill x = provenSquare();
        due("value(2, 4)", x.value(2, 4), true);
        due("open()", x.open(), 0);
        due("value(1, 16)", x.value(1, 16), true);
        due("open()", x.open(), -1);
        due("value(2, P - 4)", x.value(2, P - 4), true);
        due("the square of -4", x.open(), -1);
        due("a value leaves the key", x.about(3), 1);
        due("a value leaves the proof", x.proof(0), 33);
        due("a value leaves the inputs", x.verify(), true);
        argument("value(0, 1)", () -> x.value(0, 1));
        argument("value(-1, 1)", () -> x.value(-1, 1));
        argument("value(16, 1)", () -> x.value(16, 1));
        argument("value(max, 1)", () -> x.value(Integer.MAX_VALUE, 1));
        for (int v : NO_NUMBERS) {
            argument("value(2, " + v + ")", () -> x.value(2, v));
        }
        due("refusals leave the values", x.open(), -1);
        due("value(15, P - 1)", x.value(15, P - 1), true);
        due("value(15, 0)", x.value(15, 0), true);
    }

    static void open() {
        promise = "promise 6";
        ProofMill x = new ProofMill();
        x.term(2, 0, 1);
        due("a draft is not looked at", x.open(), -1);
        x.constraint();
        due("0 * 0 = 1", x.open(), 0);
        ProofMill y = new ProofMill();
        for (int i = 1; i <= 15; i++) {
            y.term(0, i, 1);
            y.term(1, i, 1);
            y.term(2, i, 1);
            y.constraint();
        }
        due("all values 0", y.open(), -1);
        y.value(9, 2);
        due("open()", y.open(), 8);
        y.value(4, P - 1);
        due("the first of two", y.open(), 3);
        y.value(4, 1);
        due("open()", y.open(), 8);
        y.value(9, 1);
        due("open()", y.open(), -1);
        ProofMill z = new ProofMill();
        z.value(1, P - 1);
        z.value(2, P - 2);
        z.term(0, 0, P - 1);
        z.term(0, 1, P - 1);
        z.term(0, 2, P - 1);
        z.term(1, 2, P - 1);
        z.term(2, 0, 4);
        z.constraint();
        due("(-1 + 1 + 2) * 2 = 4", z.open(), -1);
    }

    static void setup() {
        promise = "promise 7";
        int[] sizes = {2, 2, 2, 4, 4, 8, 8, 8, 8, 16, 16, 16, 16, 16, 16, 16, 16};
        for (int count = 0; count <= 16; count++) {
            ProofMill x = new ProofMill();
            addConstraints(x, count);
            due("setup with " + count + " constraints", x.setup(5, 7, 11, 13, 17), sizes[count]);
            due("about(3)", x.about(3), 1);
            int n = sizes[count];
            int w = pow(3, (P - 1) / n);
            for (int j = 0; j < n; j++) {
                int tau = pow(w, j);
                arithmetic("setup(W^" + j + ", ..) with " + count, () -> x.setup(tau, 2, 3, 4, 5));
            }
            due("the key before stays", x.key(0, 1), 5);
            int between = pow(3, (P - 1) / (2 * n));
            due("a root of the next power of two", x.setup(between, 2, 3, 4, 5), n);
        }
        ProofMill x = keyedSquare();
        int[] notUnits = {0, -1, P, Integer.MIN_VALUE, Integer.MAX_VALUE};
        for (int place = 0; place < 5; place++) {
            for (int bad : notUnits) {
                int[] five = {1, 2, 3, 4, 5};
                five[place] = bad;
                argument("setup with " + bad + " at " + place, () -> x.setup(five[0], five[1], five[2], five[3], five[4]));
            }
        }
        due("the key before stays", x.key(1, 1), 383940136);
        due("setup(P - 2, ..)", x.setup(P - 2, P - 1, P - 1, P - 1, P - 1), 2);
        due("key(0, 1) of the new key", x.key(0, 1), P - 2);
    }

    static void prove() {
        promise = "promise 8";
        ProofMill x = square();
        for (int bad : NO_NUMBERS) {
            argument("prove(" + bad + ", 0) without a key", () -> x.prove(bad, 0));
            argument("prove(0, " + bad + ") without a key", () -> x.prove(0, bad));
        }
        state("prove without a key", () -> x.prove(0, 0));
        x.value(1, 10);
        state("prove without a key, open", () -> x.prove(0, 0));
        x.setup(5, 7, 11, 13, 17);
        arithmetic("prove, open", () -> x.prove(0, 0));
        argument("prove(-1, 0), open", () -> x.prove(-1, 0));
        due("no proof after refusals", x.about(4), 0);
        x.value(1, 9);
        due("prove(1, 2)", x.prove(1, 2), true);
        due("about(4)", x.about(4), 1);
        due("A", x.proof(0), 33);
        due("B", x.proof(1), 54);
        due("C", x.proof(2), 293601379);
        x.value(1, 10);
        arithmetic("prove, open again", () -> x.prove(3, 4));
        argument("prove(P, 0)", () -> x.prove(P, 0));
        due("A after refusals", x.proof(0), 33);
        due("C after refusals", x.proof(2), 293601379);
        due("quotient after refusals", x.quotient(0), 748683267);
        x.value(1, 9);
        x.alter(1, 0);
        due("prove(0, 0)", x.prove(0, 0), true);
        due("A with r 0", x.proof(0), 16);
        due("B with s 0", x.proof(1), 20);
        due("prove(P - 1, P - 1)", x.prove(P - 1, P - 1), true);
        due("A with r -1", x.proof(0), P - 1);
        due("B with s -1", x.proof(1), 3);
        x.input(1, 9);
        due("verify()", x.verify(), true);
        ProofMill none = new ProofMill();
        none.setup(2, 3, 4, 5, 6);
        due("prove without constraints", none.prove(2, 3), true);
        due("its A", none.proof(0), 15);
        due("its B", none.proof(1), 22);
        due("its C", none.proof(2), 15 * 3 + 22 * 2 - 2 * 3 * 6);
        for (int i = 1; i < 16; i++) {
            privateVariable(i);
        }
    }

    /** 1 * 6 = 2 * variable i, which is 3: with TAU 3 the first point weighs 2, H is 3 / 2 and T is 8. */
    static void privateVariable(int i) {
        ProofMill x = new ProofMill();
        x.value(i, 3);
        x.term(0, 0, 1);
        x.term(1, 0, 6);
        x.term(2, i, 2);
        x.constraint();
        x.setup(3, 7, 11, 13, 1);
        due("prove(0, 0) with variable " + i, x.prove(0, 0), true);
        due("A with variable " + i, x.proof(0), 7 + 2);
        due("B with variable " + i, x.proof(1), 11 + 12);
        due("C with variable " + i, x.proof(2), 3 * 4 + 12);
        due("verify() with variable " + i, x.verify(), true);
    }

    static void alter() {
        promise = "promise 9";
        ProofMill x = keyedSquare();
        argument("alter(3, 0) without a proof", () -> x.alter(3, 0));
        argument("alter(0, P) without a proof", () -> x.alter(0, P));
        state("alter(0, 0) without a proof", () -> x.alter(0, 0));
        x.prove(1, 2);
        x.input(1, 9);
        argument("alter(-1, 0)", () -> x.alter(-1, 0));
        argument("alter(3, 0)", () -> x.alter(3, 0));
        for (int bad : NO_NUMBERS) {
            argument("alter(0, " + bad + ")", () -> x.alter(0, bad));
        }
        due("verify() after refusals", x.verify(), true);
        int[] before = {x.proof(0), x.proof(1), x.proof(2)};
        for (int k = 0; k < 3; k++) {
            due("alter(" + k + ", P - 1)", x.alter(k, P - 1), true);
            for (int i = 0; i < 3; i++) {
                due("proof(" + i + ")", x.proof(i), i == k ? P - 1 : before[i]);
            }
            due("verify() of an altered proof", x.verify(), false);
            due("alter back", x.alter(k, before[k]), true);
            due("verify()", x.verify(), true);
        }
        due("alter(1, 0)", x.alter(1, 0), true);
        due("the quotient stays", x.quotient(0), 748683267);
        x.constraint();
        due("alter without a key", x.alter(2, 5), true);
        due("proof(2)", x.proof(2), 5);
    }

    static void input() {
        promise = "promise 10";
        ProofMill x = provenSquare();
        due("verify()", x.verify(), true);
        argument("input(0, 1)", () -> x.input(0, 1));
        argument("input(-1, 1)", () -> x.input(-1, 1));
        argument("input(7, 1)", () -> x.input(7, 1));
        argument("input(max, 1)", () -> x.input(Integer.MAX_VALUE, 1));
        for (int bad : NO_NUMBERS) {
            argument("input(1, " + bad + ")", () -> x.input(1, bad));
        }
        due("verify() after refusals", x.verify(), true);
        due("input(1, 8)", x.input(1, 8), true);
        due("verify()", x.verify(), false);
        due("an input leaves the key", x.about(3), 1);
        due("an input leaves the values", x.open(), -1);
        due("input(1, 9)", x.input(1, 9), true);
        for (int i = 2; i <= 6; i++) {
            due("input(" + i + ", P - 1)", x.input(i, P - 1), true);
        }
        due("inputs above PUBLICS do not count", x.verify(), true);
        allSixInputs();
    }

    /** Each variable i 1 .. 6 is i * 1 by a constraint of its own: each input counts, once PUBLICS are 6. */
    static void allSixInputs() {
        ProofMill x = new ProofMill();
        x.publics(6);
        for (int i = 1; i <= 6; i++) {
            x.value(i, i + 100);
            x.input(i, i + 100);
            x.term(0, i, 1);
            x.term(1, 0, 1);
            x.term(2, 0, i + 100);
            x.constraint();
        }
        x.setup(123, 456, 789, 1011, 1213);
        x.prove(14, 15);
        due("verify() with six inputs", x.verify(), true);
        for (int i = 1; i <= 6; i++) {
            x.input(i, 0);
            due("verify() with input " + i + " 0", x.verify(), false);
            x.input(i, i + 100);
            due("verify()", x.verify(), true);
        }
    }

    static void verify() {
        promise = "promise 11";
        ProofMill x = new ProofMill();
        state("verify() without key and proof", () -> x.verify());
        x.setup(2, 3, 4, 5, 6);
        state("verify() without a proof", () -> x.verify());
        x.prove(7, 8);
        due("verify()", x.verify(), true);
        x.publics(0);
        state("verify() without a key", () -> x.verify());
        x.setup(2, 3, 4, 5, 6);
        due("verify() under the same key again", x.verify(), true);
        x.setup(2, 4, 4, 5, 6);
        due("verify() under another key", x.verify(), false);
        ProofMill y = provenSquare();
        y.value(2, 100);
        due("verify() does not look at the values", y.verify(), true);
        y.input(1, 10);
        due("verify() looks at the inputs", y.verify(), false);
        y.input(1, 9);
        y.alter(0, mod(2L * y.proof(0)));
        y.alter(1, mod((long) inverse(2) * y.proof(1)));
        due("verify() looks at A * B alone", y.verify(), true);
        y.setup(5, 7, 11, 14, 17);
        due("GAMMA does not count", y.verify(), true);
    }

    static void proof() {
        promise = "promise 12";
        ProofMill x = keyedSquare();
        for (int k = -1; k <= 3; k++) {
            due("proof(" + k + ") without a proof", x.proof(k), -1);
        }
        x.prove(1, 2);
        int[] want = {33, 54, 293601379};
        for (int round = 0; round < 3; round++) {
            for (int k = 0; k < 3; k++) {
                due("proof(" + k + ")", x.proof(k), want[k]);
            }
            due("proof(-1)", x.proof(-1), -1);
            due("proof(3)", x.proof(3), -1);
            due("proof(min)", x.proof(Integer.MIN_VALUE), -1);
            if (round == 0) {
                x.constraint();
            } else {
                x.setup(6, 5, 4, 3, 2);
            }
        }
        x.prove(0, 0);
        due("a new proof takes its place", x.proof(0) != 33, true);
    }

    static void quotient() {
        promise = "promise 13";
        ProofMill x = keyedSquare();
        due("quotient(0) without a proof", x.quotient(0), -1);
        x.prove(1, 2);
        // U = V = 3 * (1 + X) / 2: U * V - Y = H * (X^2 - 1), so H is 9 / 4.
        int h = mod(9L * inverse(4));
        due("quotient(0)", x.quotient(0), h);
        for (int k = 1; k < 16; k++) {
            due("quotient(" + k + ")", x.quotient(k), 0);
        }
        due("quotient(-1)", x.quotient(-1), -1);
        due("quotient(16)", x.quotient(16), -1);
        due("quotient(max)", x.quotient(Integer.MAX_VALUE), -1);
        addConstraints(x, 4);
        due("it stays when the key goes", x.quotient(0), h);
        due("with the N of its proof", x.quotient(3), 0);
        ProofMill y = new ProofMill();
        y.value(1, 2);
        for (int j = 0; j < 16; j++) {
            y.term(0, 1, j * j + 1);
            y.term(1, 1, j + 3);
            y.term(2, 0, 4 * (j * j + 1) * (j + 3));
            y.constraint();
        }
        y.setup(5, 7, 11, 13, 17);
        y.prove(0, 0);
        due("its last coefficient", y.quotient(14), mod(4L * mod((long) y.polynomial(0, 1, 15) * y.polynomial(1, 1, 15))));
        due("no coefficient N - 1", y.quotient(15), 0);
        due("verify()", y.verify(), true);
        ProofMill shrunk = shrinkingQuotient();
        due("nothing is left of the quotient before", shrunk.quotient(0) + shrunk.quotient(1) + shrunk.quotient(2), 0);
    }

    /** The values 1, then 0, of a cube: the second proof's quotient is 0. */
    static ProofMill shrinkingQuotient() {
        ProofMill x = new ProofMill();
        for (int j = 0; j < 4; j++) {
            x.term(0, 1, j + 1);
            x.term(1, 1, j + 1);
            x.term(2, 1, (j + 1) * (j + 1));
            x.constraint();
        }
        x.value(1, 1);
        x.setup(5, 7, 11, 13, 17);
        x.prove(1, 1);
        x.value(1, 0);
        x.prove(1, 1);
        return x;
    }

    static void polynomial() {
        promise = "promise 14";
        int[] sizes = {2, 2, 2, 4, 4, 8, 8, 8, 8, 16, 16, 16, 16, 16, 16, 16, 16};
        for (int count = 0; count <= 16; count++) {
            polynomialsOf(count, sizes[count]);
        }
        ProofMill y = keyedSquare();
        due("polynomial(-1, 0, 0)", y.polynomial(-1, 0, 0), -1);
        due("polynomial(3, 0, 0)", y.polynomial(3, 0, 0), -1);
        due("polynomial(0, -1, 0)", y.polynomial(0, -1, 0), -1);
        due("polynomial(0, 16, 0)", y.polynomial(0, 16, 0), -1);
        due("polynomial(0, 2, 2)", y.polynomial(0, 2, 2), -1);
        due("polynomial(0, 2, max)", y.polynomial(0, 2, Integer.MAX_VALUE), -1);
        due("polynomial(0, 2, min)", y.polynomial(0, 2, Integer.MIN_VALUE), -1);
        due("polynomial(0, 2, 1)", y.polynomial(0, 2, 1), inverse(2));
        due("polynomial leaves the key", y.about(3), 1);
    }

    /** Variable 5 * row has 1000 * row + j + 1 in that row of constraint j; the draft has something too. */
    static void polynomialsOf(int count, int n) {
        ProofMill x = new ProofMill();
        for (int j = 0; j <= count; j++) {
            for (int row = 0; row < 3; row++) {
                x.term(row, 5 * row, 1000 * row + j + 1);
            }
            if (j < count) {
                x.constraint();
            }
        }
        int w = pow(3, (P - 1) / n);
        for (int row = 0; row < 3; row++) {
            int variable = 5 * row;
            long[] coefficients = new long[n];
            for (int k = 0; k < n; k++) {
                coefficients[k] = x.polynomial(row, variable, k);
            }
            for (int j = 0; j < n; j++) {
                long sum = 0;
                for (int k = 0; k < n; k++) {
                    sum = mod(sum + coefficients[k] * pow(w, (long) j * k));
                }
                due("the value at W^" + j + " with " + count, (int) sum, j < count ? 1000 * row + j + 1 : 0);
            }
            due("polynomial(.., N)", x.polynomial(row, variable, n), -1);
            due("polynomial(.., -1)", x.polynomial(row, variable, -1), -1);
            due("polynomial of another variable", x.polynomial(row, variable + 1, n - 1), 0);
        }
    }

    static void key() {
        promise = "promise 15";
        ProofMill none = square();
        due("key(0, 0) without a key", none.key(0, 0), -1);
        due("key(1, 0) without a key", none.key(1, 0), -1);
        due("key(2, 0) without a key", none.key(2, 0), -1);
        ProofMill x = new ProofMill();
        x.publics(2);
        for (int i = 0; i < 16; i++) {
            x.term(2, i, i + 1);
        }
        x.constraint();
        addConstraints(x, 2);
        int tau = 12345;
        x.setup(tau, 7, 11, 13, 17);
        int t = mod(pow(tau, 4) - 1L);
        for (int i = 0; i < 4; i++) {
            due("key(0, " + i + ")", x.key(0, i), pow(tau, i));
        }
        due("key(0, 4)", x.key(0, 4), -1);
        due("key(0, -1)", x.key(0, -1), -1);
        // The polynomial that is 1 at W^0 and 0 at the other points is (1 + X + X^2 + X^3) / 4.
        long first = mod((1L + tau + pow(tau, 2) + pow(tau, 3)) % P * inverse(4));
        for (int i = 0; i < 16; i++) {
            due("key(1, " + i + ")", x.key(1, i), mod(mod(first * (i + 1)) * (long) inverse(i <= 2 ? 13 : 17)));
        }
        due("key(1, 16)", x.key(1, 16), -1);
        due("key(1, -1)", x.key(1, -1), -1);
        for (int i = 0; i < 3; i++) {
            due("key(2, " + i + ")", x.key(2, i), mod(mod((long) pow(tau, i) * t) * (long) inverse(17)));
        }
        due("key(2, 3)", x.key(2, 3), -1);
        due("key(2, -1)", x.key(2, -1), -1);
        due("key(3, 0)", x.key(3, 0), -1);
        due("key(-1, 0)", x.key(-1, 0), -1);
        due("key(max, 0)", x.key(Integer.MAX_VALUE, 0), -1);
        due("key(0, max)", x.key(0, Integer.MAX_VALUE), -1);
        due("key(2, min)", x.key(2, Integer.MIN_VALUE), -1);
        mixOfRows();
        x.constraint();
        due("key(0, 0) when the key has gone", x.key(0, 0), -1);
        due("key(1, 0) when the key has gone", x.key(1, 0), -1);
    }

    /** Row 0 counts BETA fold and row 1 ALPHA fold. */
    static void mixOfRows() {
        ProofMill x = new ProofMill();
        x.term(0, 3, 1);
        x.term(1, 4, 1);
        x.term(2, 5, 1);
        x.constraint();
        x.setup(3, 7, 11, 13, 1);
        due("mix of row 0", x.key(1, 3), 11 * 2);
        due("mix of row 1", x.key(1, 4), 7 * 2);
        due("mix of row 2", x.key(1, 5), 2);
    }

    static void about() {
        promise = "promise 16";
        ProofMill x = square();
        due("about(0)", x.about(0), 1);
        due("about(1)", x.about(1), 2);
        due("about(2)", x.about(2), 1);
        due("about(3)", x.about(3), 0);
        due("about(4)", x.about(4), 0);
        x.setup(5, 7, 11, 13, 17);
        due("about(3) with a key", x.about(3), 1);
        due("about(4) with a key", x.about(4), 0);
        x.prove(0, 0);
        due("about(4) with a proof", x.about(4), 1);
        addConstraints(x, 2);
        due("about(0)", x.about(0), 3);
        due("about(1)", x.about(1), 4);
        due("about(3) when the key has gone", x.about(3), 0);
        due("about(4) when the key has gone", x.about(4), 1);
        due("about(-1)", x.about(-1), -1);
        due("about(5)", x.about(5), -1);
        due("about(max)", x.about(Integer.MAX_VALUE), -1);
        due("about(min)", x.about(Integer.MIN_VALUE), -1);
    }
}
