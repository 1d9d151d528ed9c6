import java.math.BigInteger;

/**
 * Each sentence of the document that names a boundary, by a test of its own: at the limit and one beyond it on either
 * side. That a refused call changes nothing is looked at by ProofMillRefusals, sentence and all.
 */
public final class ProofMillEdges {
    static final int P = 998244353;
    static final int NONE = -1;
    static final int MIN = Integer.MIN_VALUE;
    static final int MAX = Integer.MAX_VALUE;
    static final int[] SIZES = {2, 2, 2, 4, 4, 8, 8, 8, 8, 16, 16, 16, 16, 16, 16, 16, 16};
    static final int[] LEAST_NUMBERS_AND_LAST = {0, 1, 2, P - 2, P - 1};
    static final int[] NO_NUMBERS = {-1, P, P + 1, MIN, MAX};

    static final String ARGUMENT = "throws.IllegalArgumentException";
    static final String STATE = "throws.IllegalStateException";
    static final String ARITHMETIC = "throws.ArithmeticException";

    static int wrong = 0;
    static int sentences = 0;
    static String sentence = "";

    interface Call {
        Object go();
    }

    interface WithNumber {
        Object go(ProofMill x, int number);
    }

    static void says(String words) {
        sentence = words;
        sentences++;
    }

    static void due(String call, Object got, Object want) {
        if (!got.equals(want)) {
            wrong++;
            System.out.println("\"" + sentence + "\": " + call + " answered " + got + ", due is " + want);
        }
    }

    static void refused(String call, Call made, String by) {
        Object got;
        try {
            got = made.go();
        } catch (RuntimeException e) {
            got = "throws." + e.getClass().getSimpleName();
        }
        due(call, got, by);
    }

    public static void main(String[] args) {
        terms();
        aNewObject();
        promises2To6();
        promises7To11();
        promises12To16();
        System.out.println(wrong == 0 ? sentences + " sentences hold" : wrong + " answers are not as due");
        if (wrong != 0) {
            System.exit(1);
        }
    }

    static void terms() {
        callsOfAnObject();
        numbers();
        sumsModuloP();
        productsModuloP();
        quotientsModuloP();
        variables();
        variable0();
        publicVariables();
        coefficientsAtFirst();
        fulfil();
        mostConstraints();
        leastPowerOfTwo();
        rootOfTheField();
        noConstraintJ();
        degreeBelowN();
        valueAtTau();
        mixes();
        vanishing();
        noneOfThemZero();
        vanishingNotZero();
        keyIsNoMore();
        fulfilAll();
        quotientPolynomial();
        firstElements();
        lastElement();
        variablesAbovePublics();
        toVerify();
        inputsOfTheirOwn();
        inputsAtFirst();
    }

    static void aNewObject() {
        newConstraints();
        newDraft();
        newValuesAndInputs();
        newKey();
        newProof();
    }

    static void promises2To6() {
        termGrows();
        termRefused();
        constraintAnswers();
        constraintRefused();
        publicsTaken();
        publicsRefused();
        valueTaken();
        valueRefused();
        openFirst();
        openNone();
    }

    static void promises7To11() {
        setupAnswers();
        setupRefused();
        setupWithoutT();
        proveTaken();
        proveRefused();
        proveWithoutKey();
        proveOpen();
        alterTaken();
        alterRefused();
        alterWithoutProof();
        inputTaken();
        inputRefused();
        verifies();
        verifyWithout();
    }

    static void promises12To16() {
        proofMadeLast();
        proofNone();
        proofStays();
        quotientMadeLast();
        quotientZero();
        quotientNone();
        polynomialAsTheyAre();
        polynomialNone();
        keyPowers();
        keyMixes();
        keySteps();
        keyNone();
        aboutEach();
        aboutNone();
    }

    // Numbers by another way than the class reckons them.

    static int mod(long a) {
        return (int) Math.floorMod(a, (long) P);
    }

    static int times(long a, long b) {
        return mod(mod(a) * (long) mod(b));
    }

    static int inverse(long a) {
        return BigInteger.valueOf(a).modInverse(BigInteger.valueOf(P)).intValueExact();
    }

    static int pow(long a, long e) {
        return BigInteger.valueOf(a).modPow(BigInteger.valueOf(e), BigInteger.valueOf(P)).intValueExact();
    }

    static int root(int n) {
        return pow(3, (P - 1) / n);
    }

    /** The value at x of the polynomial that is 1 at W^j and 0 at the other points: its product form. */
    static int lagrange(int n, int j, long x) {
        long value = 1;
        for (int m = 0; m < n; m++) {
            if (m != j) {
                int point = pow(root(n), m);
                value = times(times(value, x - point), inverse(mod(pow(root(n), j) - point)));
            }
        }
        return (int) value;
    }

    // Objects to begin with.

    static ProofMill withConstraints(int count) {
        ProofMill x = new ProofMill();
        for (int j = 0; j < count; j++) {
            x.constraint();
        }
        return x;
    }

    /** x1 * x2 = x3 as the only constraint. */
    static ProofMill product() {
        ProofMill x = new ProofMill();
        x.term(0, 1, 1);
        x.term(1, 2, 1);
        x.term(2, 3, 1);
        x.constraint();
        return x;
    }

    /** x2 * x2 = x1, x1 public and 9, under a key. */
    static ProofMill keyed() {
        ProofMill x = new ProofMill();
        x.publics(1);
        x.value(2, 3);
        x.value(1, 9);
        x.input(1, 9);
        x.term(0, 2, 1);
        x.term(1, 2, 1);
        x.term(2, 1, 1);
        x.constraint();
        x.setup(5, 7, 11, 13, 17);
        return x;
    }

    static ProofMill proven() {
        ProofMill x = keyed();
        x.prove(1, 2);
        return x;
    }

    /**
     * Constraint j: x1 * (j + 3) times x2 * (j * j + 1) is c times x3, x1 = 2, x2 = 5, x3 = 1: all are fulfilled, and
     * no coefficient of the polynomials is 0 by chance.
     */
    static ProofMill chain(int count) {
        ProofMill x = new ProofMill();
        x.value(1, 2);
        x.value(2, 5);
        x.value(3, 1);
        for (int j = 0; j < count; j++) {
            x.term(0, 1, j + 3);
            x.term(1, 2, j * j + 1);
            x.term(2, 3, 10 * (j + 3) * (j * j + 1));
            x.constraint();
        }
        return x;
    }

    /** All variables in row 0 of the only constraint, whose other rows are empty: each mix is of use, nothing is open. */
    static ProofMill wide(int publics) {
        ProofMill x = new ProofMill();
        x.publics(publics);
        for (int i = 0; i < 16; i++) {
            x.term(0, i, i + 1);
        }
        x.constraint();
        for (int i = 1; i < 16; i++) {
            x.value(i, 100 + i);
        }
        for (int i = 1; i <= 6; i++) {
            x.input(i, 100 + i);
        }
        return x;
    }

    // What it is.

    static void callsOfAnObject() {
        says("An object is used for at most 512 calls after it has been made");
        ProofMill grown = new ProofMill();
        for (int call = 1; call <= 512; call++) {
            due("call " + call, grown.term(2, 15, 1), call);
        }
        lastCallsMakeConstraints();
        lastCallsVerify();
        refusedCallsCount();
    }

    static void lastCallsMakeConstraints() {
        ProofMill x = new ProofMill();
        for (int call = 1; call <= 496; call++) {
            due("call " + call, x.about(0), 0);
        }
        for (int call = 497; call <= 512; call++) {
            due("call " + call, x.constraint(), call - 497);
        }
    }

    /** keyed() makes 9 calls. */
    static void lastCallsVerify() {
        ProofMill x = keyed();
        for (int call = 10; call <= 509; call++) {
            due("call " + call, call % 2 == 0 ? x.prove(call, P - call) : x.verify(), true);
        }
        due("call 510", x.prove(1, 2), true);
        due("call 511", x.proof(2), 293601379);
        due("call 512", x.verify(), true);
    }

    static void refusedCallsCount() {
        ProofMill x = new ProofMill();
        for (int call = 1; call <= 511; call++) {
            refused("call " + call, () -> x.term(3, 0, 0), ARGUMENT);
        }
        due("call 512", x.term(2, 0, 5), 5);
    }

    // Terms.

    static void numbers() {
        says("NUMBERS are 0 .. P - 1, P = 998244353");
        WithNumber[] calls = {
            (x, number) -> x.term(0, 0, number) == number,
            (x, number) -> x.value(15, number),
            (x, number) -> x.prove(number, 0),
            (x, number) -> x.prove(0, number),
            (x, number) -> x.alter(0, number),
            (x, number) -> x.alter(2, number),
            (x, number) -> x.input(6, number),
        };
        for (int c = 0; c < calls.length; c++) {
            WithNumber call = calls[c];
            for (int number : LEAST_NUMBERS_AND_LAST) {
                due("call " + c + " with " + number, call.go(proven(), number), true);
            }
            for (int number : NO_NUMBERS) {
                refused("call " + c + " with " + number, () -> call.go(proven(), number), ARGUMENT);
            }
        }
        ProofMill x = proven();
        x.alter(1, P - 1);
        due("proof(1)", x.proof(1), P - 1);
        x.alter(1, 0);
        due("proof(1)", x.proof(1), 0);
    }

    static void sumsModuloP() {
        says("all sums, products and quotients are modulo P: sums");
        ProofMill x = new ProofMill();
        due("P - 1", x.term(0, 0, P - 1), P - 1);
        due("P - 1 + 1", x.term(0, 0, 1), 0);
        due("0 + P - 2", x.term(0, 0, P - 2), P - 2);
        due("P - 2 + 1", x.term(0, 0, 1), P - 1);
        due("P - 1 + P - 1", x.term(0, 0, P - 1), P - 2);
        due("P - 2 + 3", x.term(0, 0, 3), 1);
        ProofMill y = new ProofMill();
        for (int i = 0; i < 16; i++) {
            y.term(0, i, P - 1);
            if (i > 0) {
                y.value(i, P - 1);
            }
        }
        y.term(1, 0, 1);
        y.term(2, 0, 14);
        y.constraint();
        due("-1 + 15 * (-1 * -1) = 14", y.open(), NONE);
        largestSumsInAProof(0);
        largestSumsInAProof(6);
    }

    /** All numbers P - 1, in all constraints and variables: every sum runs over P as often as it can. */
    static void largestSumsInAProof(int publics) {
        ProofMill x = new ProofMill();
        x.publics(publics);
        for (int i = 1; i < 16; i++) {
            x.value(i, P - 1);
        }
        for (int i = 1; i <= 6; i++) {
            x.input(i, P - 1);
        }
        for (int j = 0; j < 16; j++) {
            for (int i = 0; i < 8; i++) {
                x.term(0, i, P - 1);
                x.term(1, 15 - i, P - 1);
            }
            x.term(2, 0, 6 * 8);
            x.constraint();
        }
        due("(-1 + 7) * 8 = 48", x.open(), NONE);
        due("setup(P - 2, ..)", x.setup(P - 2, P - 1, P - 1, P - 1, P - 1), 16);
        due("prove(P - 1, P - 1)", x.prove(P - 1, P - 1), true);
        due("verify() with PUBLICS " + publics, x.verify(), true);
    }

    static void productsModuloP() {
        says("all sums, products and quotients are modulo P: products");
        int[][] cases = {{P - 1, P - 1, 1}, {P - 1, P - 2, 2}, {P - 1, 1, P - 1}, {P - 1, 2, P - 2},
            {32768, 65536, times(32768, 65536)}, {31596, 31596, times(31596, 31596)}, {499122177, 2, 1}, {P - 1, 0, 0}};
        for (int[] one : cases) {
            ProofMill x = product();
            x.value(1, one[0]);
            x.value(2, one[1]);
            x.value(3, one[2]);
            due(one[0] + " * " + one[1] + " = " + one[2], x.open(), NONE);
            x.value(3, mod(one[2] + 1L));
            due(one[0] + " * " + one[1] + " = " + one[2] + " + 1", x.open(), 0);
            x.value(3, mod(one[2] - 1L));
            due(one[0] + " * " + one[1] + " = " + one[2] + " - 1", x.open(), 0);
        }
    }

    static void quotientsModuloP() {
        says("all sums, products and quotients are modulo P: quotients");
        ProofMill x = new ProofMill();
        x.term(2, 0, 1);
        x.term(2, 1, 1);
        x.constraint();
        // With TAU 3 the first point weighs (1 + 3) / 2 = 2, so both mixes are 2; T is 8.
        x.setup(3, 1, 1, 4, 5);
        due("2 / 4", x.key(1, 0), (P + 1) / 2);
        due("2 / 5", x.key(1, 1), times(2, inverse(5)));
        due("8 / 5", x.key(2, 0), times(8, inverse(5)));
        x.setup(3, 1, 1, 1, P - 1);
        due("2 / 1", x.key(1, 0), 2);
        due("2 / -1", x.key(1, 1), P - 2);
        due("8 / -1", x.key(2, 0), P - 8);
    }

    static void variables() {
        says("VARIABLES are 0 .. 15");
        for (int row = 0; row < 3; row++) {
            for (int i = 0; i < 16; i++) {
                coefficientOfItsOwn(row, i);
            }
        }
        ProofMill x = keyed();
        for (int i : new int[] {-1, 16, MIN, MAX}) {
            refused("term(0, " + i + ", 0)", () -> x.term(0, i, 0), ARGUMENT);
            refused("value(" + i + ", 0)", () -> x.value(i, 0), ARGUMENT);
            due("polynomial(0, " + i + ", 0)", x.polynomial(0, i, 0), NONE);
            due("key(1, " + i + ")", x.key(1, i), NONE);
        }
        due("polynomial(0, 15, 0)", x.polynomial(0, 15, 0), 0);
        due("key(1, 15)", x.key(1, 15), 0);
    }

    static void coefficientOfItsOwn(int row, int i) {
        ProofMill x = new ProofMill();
        x.term(row, i, 7);
        for (int r = 0; r < 3; r++) {
            for (int v = 0; v < 16; v++) {
                due("term(" + r + ", " + v + ", 0)", x.term(r, v, 0), r == row && v == i ? 7 : 0);
            }
        }
        x.constraint();
        for (int r = 0; r < 3; r++) {
            for (int v = 0; v < 16; v++) {
                due("polynomial(" + r + ", " + v + ", 1)", x.polynomial(r, v, 1), r == row && v == i ? times(7, inverse(2)) : 0);
            }
        }
    }

    static void variable0() {
        says("variable 0 is always 1");
        for (int c : LEAST_NUMBERS_AND_LAST) {
            ProofMill x = new ProofMill();
            x.term(0, 0, c);
            x.term(1, 0, 1);
            x.term(2, 0, c);
            x.constraint();
            due(c + " * 1 = " + c, x.open(), NONE);
            for (int v : new int[] {0, 1, 2, P - 1}) {
                refused("value(0, " + v + ")", () -> x.value(0, v), ARGUMENT);
                due(c + " * 1 = " + c, x.open(), NONE);
            }
            x.term(0, 0, c);
            x.term(1, 0, 1);
            x.term(2, 0, mod(c + 1L));
            x.constraint();
            due(c + " * 1 = " + c + " + 1", x.open(), 1);
        }
    }

    static void publicVariables() {
        says("variables 1 .. PUBLICS (0 at first, at most 6) are public");
        due("about(2) at first", new ProofMill().about(2), 0);
        for (int n = 0; n <= 6; n++) {
            ProofMill x = wide(n);
            x.setup(3, 7, 11, 13, 17);
            x.prove(1, 2);
            due("verify() with PUBLICS " + n, x.verify(), true);
            for (int i = 1; i <= 6; i++) {
                x.input(i, 1000);
                due("verify() with PUBLICS " + n + " and another input " + i, x.verify(), i > n);
                x.input(i, 100 + i);
            }
            for (int i = 0; i < 16; i++) {
                int mix = 11 * 2 * (i + 1);
                due("key(1, " + i + ") with PUBLICS " + n, x.key(1, i), times(mix, inverse(i <= n ? 13 : 17)));
            }
        }
        ProofMill unset = wide(0);
        ProofMill never = new ProofMill();
        for (int i = 0; i < 16; i++) {
            never.term(0, i, i + 1);
        }
        never.constraint();
        unset.setup(3, 7, 11, 13, 17);
        never.setup(3, 7, 11, 13, 17);
        for (int i = 0; i < 16; i++) {
            due("key(1, " + i + ") with PUBLICS never set", never.key(1, i), unset.key(1, i));
        }
        refused("publics(7)", () -> never.publics(7), ARGUMENT);
        refused("publics(-1)", () -> never.publics(-1), ARGUMENT);
    }

    static void coefficientsAtFirst() {
        says("each with a coefficient for each variable (0 at first)");
        for (int count = 0; count <= 16; count += 4) {
            ProofMill x = withConstraints(count);
            for (int row = 0; row < 3; row++) {
                for (int i = 0; i < 16; i++) {
                    due("term(" + row + ", " + i + ", 0) beside " + count, x.term(row, i, 0), 0);
                    due("polynomial(" + row + ", " + i + ", 0) of " + count, x.polynomial(row, i, 0), 0);
                    due("polynomial(" + row + ", " + i + ", N - 1) of " + count, x.polynomial(row, i, SIZES[count] - 1), 0);
                }
            }
        }
    }

    static void fulfil() {
        says("the values FULFIL it when the sum of coefficient * value of row 0 times that of row 1 is that of row 2");
        int[][] fulfilled = {{0, 0, 0}, {0, 5, 0}, {5, 0, 0}, {2, 3, 6}, {1, 1, 1}, {P - 1, P - 1, 1}, {P - 1, 1, P - 1}};
        for (int[] one : fulfilled) {
            ProofMill x = product();
            for (int i = 0; i < 3; i++) {
                x.value(i + 1, one[i]);
            }
            due(one[0] + " * " + one[1] + " = " + one[2], x.open(), NONE);
            x.value(3, one[2] == P - 1 ? 0 : one[2] + 1);
            due(one[0] + " * " + one[1] + " = one more than " + one[2], x.open(), 0);
            x.value(3, one[2] == 0 ? P - 1 : one[2] - 1);
            due(one[0] + " * " + one[1] + " = one less than " + one[2], x.open(), 0);
        }
        due("an empty constraint", withConstraints(1).open(), NONE);
        ProofMill rowTwoAlone = new ProofMill();
        rowTwoAlone.term(2, 15, 1);
        rowTwoAlone.constraint();
        due("0 * 0 = 0", rowTwoAlone.open(), NONE);
        rowTwoAlone.value(15, 1);
        due("0 * 0 = 1", rowTwoAlone.open(), 0);
    }

    static void mostConstraints() {
        says("There are at most 16 constraints.");
        ProofMill x = withConstraints(14);
        due("the 15th", x.constraint(), 14);
        due("the 16th", x.constraint(), 15);
        refused("the 17th", () -> x.constraint(), STATE);
        refused("the 17th again", () -> x.constraint(), STATE);
        due("about(0)", x.about(0), 16);
        due("about(1)", x.about(1), 16);
    }

    static void leastPowerOfTwo() {
        says("N is the least power of two that is at least 2 and not below the number of constraints");
        ProofMill grown = new ProofMill();
        for (int count = 0; count <= 16; count++) {
            int n = SIZES[count];
            if (count > 0) {
                grown.constraint();
            }
            due("about(1) with " + count, grown.about(1), n);
            due("setup with " + count, grown.setup(5, 7, 11, 13, 17), n);
            due("polynomial(0, 0, N - 1) with " + count, grown.polynomial(0, 0, n - 1), 0);
            due("polynomial(0, 0, N) with " + count, grown.polynomial(0, 0, n), NONE);
            due("key(0, N - 1) with " + count, grown.key(0, n - 1), pow(5, n - 1));
            due("key(0, N) with " + count, grown.key(0, n), NONE);
        }
    }

    static void rootOfTheField() {
        says("W is 3^((P - 1) / N)");
        for (int n = 2; n <= 16; n *= 2) {
            for (int j = 0; j < n; j++) {
                ProofMill x = new ProofMill();
                for (int m = 0; m < n; m++) {
                    x.term(1, 4, m == j ? 1 : 0);
                    x.constraint();
                }
                for (int k = 0; k < n; k++) {
                    int want = times(inverse(n), inverse(pow(root(n), (long) j * k)));
                    due("coefficient " + k + " for constraint " + j + " of " + n, x.polynomial(1, 4, k), want);
                }
            }
        }
    }

    static void noConstraintJ() {
        says("and 0 where there is no constraint j (j 0 .. N - 1)");
        for (int count = 0; count <= 16; count++) {
            ProofMill x = new ProofMill();
            for (int j = 0; j < count; j++) {
                x.term(2, 15, P - 1 - j);
                x.constraint();
            }
            // The draft is no constraint.
            x.term(2, 15, 12345);
            int n = SIZES[count];
            for (int j = 0; j < n; j++) {
                long value = 0;
                for (int k = 0; k < n; k++) {
                    value += times(x.polynomial(2, 15, k), pow(root(n), (long) j * k));
                }
                due("the value at W^" + j + " with " + count, mod(value), j < count ? P - 1 - j : 0);
            }
        }
    }

    static void degreeBelowN() {
        says("The POLYNOMIAL of row r and variable i is that of a degree below N");
        for (int n = 2; n <= 16; n *= 2) {
            ProofMill x = new ProofMill();
            for (int j = 0; j < n; j++) {
                x.term(0, 0, 9);
                x.term(1, 0, j == n - 1 ? 9 : 0);
                x.constraint();
            }
            due("the same everywhere: coefficient 0", x.polynomial(0, 0, 0), 9);
            for (int k = 1; k < n; k++) {
                due("the same everywhere: coefficient " + k, x.polynomial(0, 0, k), 0);
            }
            due("the last constraint alone: coefficient N - 1", x.polynomial(1, 0, n - 1), times(9, times(inverse(n), pow(root(n), n - 1))));
            due("coefficient N", x.polynomial(1, 0, n), NONE);
        }
    }

    static void valueAtTau() {
        says("POLY(r, i) is its value at TAU");
        for (int count : new int[] {1, 2, 3, 4, 5, 8, 9, 15, 16}) {
            int n = SIZES[count];
            for (int tau : new int[] {2, P - 2, 7, 499122177}) {
                ProofMill x = chain(count);
                x.setup(tau, 7, 11, 13, 1);
                long[] poly = new long[3];
                for (int j = 0; j < count; j++) {
                    long weight = lagrange(n, j, tau);
                    poly[0] += times(weight, j + 3);
                    poly[1] += times(weight, j * j + 1);
                    poly[2] += times(weight, 10L * (j + 3) * (j * j + 1));
                }
                due("BETA * POLY(0, 1)", x.key(1, 1), times(11, poly[0]));
                due("ALPHA * POLY(1, 2)", x.key(1, 2), times(7, poly[1]));
                due("POLY(2, 3)", x.key(1, 3), mod(poly[2]));
                due("the mix of a variable in no constraint", x.key(1, 4), 0);
            }
        }
    }

    static void mixes() {
        says("the key's MIXES are BETA * POLY(0, i) + ALPHA * POLY(1, i) + POLY(2, i)");
        int[][] cases = {{0, 0, 0}, {1, 0, 0}, {0, 1, 0}, {0, 0, 1}, {2, 3, 5}, {P - 1, P - 1, P - 1}, {1, 0, P - 11}};
        for (int i = 0; i < 16; i += 5) {
            for (int[] one : cases) {
                ProofMill x = new ProofMill();
                for (int row = 0; row < 3; row++) {
                    x.term(row, i, one[row]);
                }
                x.constraint();
                // With TAU 3 the first point weighs 2.
                x.setup(3, 7, 11, 1, 1);
                int want = times(2, times(11, one[0]) + (long) times(7, one[1]) + one[2]);
                due("the mix of variable " + i, x.key(1, i), want);
            }
        }
    }

    static void vanishing() {
        says("With T = TAU^N - 1");
        for (int count = 0; count <= 16; count++) {
            int n = SIZES[count];
            ProofMill x = withConstraints(count);
            for (int tau : new int[] {2, 3, P - 2, P - 3}) {
                x.setup(tau, 1, 1, 1, 1);
                due("T with " + count + " and TAU " + tau, x.key(2, 0), mod(pow(tau, n) - 1L));
            }
            x.setup(root(2 * n), 1, 1, 1, 1);
            due("T with TAU^N = P - 1", x.key(2, 0), P - 2);
        }
        // The square of the sum of a root of order 8 and its inverse is 2.
        int rootOfTwo = mod((long) root(8) + inverse(root(8)));
        ProofMill least = new ProofMill();
        due("the square root of 2", least.setup(rootOfTwo, 1, 1, 1, 1), 2);
        due("T with TAU^2 = 2", least.key(2, 0), 1);
    }

    static void noneOfThemZero() {
        says("A KEY is made of five numbers TAU, ALPHA, BETA, GAMMA, DELTA, none of them 0");
        for (int place = 0; place < 5; place++) {
            for (int number : new int[] {2, 3, P - 3, P - 2}) {
                due("setup with " + number + " at " + place, setupWith(new ProofMill(), place, number), 2);
            }
            ProofMill x = new ProofMill();
            int at = place;
            refused("setup with 0 at " + place, () -> setupWith(x, at, 0), ARGUMENT);
            due("about(3)", x.about(3), 0);
            if (place > 0) {
                due("setup with 1 at " + place, setupWith(x, place, 1), 2);
                due("setup with P - 1 at " + place, setupWith(x, place, P - 1), 2);
            }
        }
    }

    static Object setupWith(ProofMill x, int place, int number) {
        int[] five = {5, 7, 11, 13, 17};
        five[place] = number;
        return x.setup(five[0], five[1], five[2], five[3], five[4]);
    }

    static void vanishingNotZero() {
        says("none of them 0, T not 0");
        for (int count = 0; count <= 16; count++) {
            int n = SIZES[count];
            for (int order = 1; order <= 32; order *= 2) {
                int tau = order == 1 ? 1 : root(order);
                ProofMill x = withConstraints(count);
                if (order <= n) {
                    refused("a root of order " + order + " with " + count, () -> x.setup(tau, 2, 3, 4, 5), ARITHMETIC);
                    due("about(3)", x.about(3), 0);
                } else {
                    due("a root of order " + order + " with " + count, x.setup(tau, 2, 3, 4, 5), n);
                }
            }
            besideTheRoots(count, n);
        }
    }

    static void besideTheRoots(int count, int n) {
        for (int j = 0; j < n; j++) {
            int tau = pow(root(n), j);
            ProofMill x = withConstraints(count);
            refused("setup(W^" + j + ", ..)", () -> x.setup(tau, 2, 3, 4, 5), ARITHMETIC);
            if (tau + 1 < P) {
                due("setup(W^" + j + " + 1, ..)", x.setup(tau + 1, 2, 3, 4, 5), n);
            }
            if (tau - 1 > 0) {
                due("setup(W^" + j + " - 1, ..)", x.setup(tau - 1, 2, 3, 4, 5), n);
            }
        }
    }

    static void keyIsNoMore() {
        says("It is no more as soon as a constraint comes or PUBLICS are set.");
        ProofMill x = proven();
        x.term(0, 0, 1);
        x.value(15, 4);
        x.input(6, 4);
        x.alter(0, 33);
        x.prove(3, 4);
        x.verify();
        x.open();
        x.polynomial(0, 0, 0);
        x.quotient(0);
        refused("publics(7)", () -> x.publics(7), ARGUMENT);
        due("the key stays for all other calls", x.about(3), 1);
        due("key(0, 1)", x.key(0, 1), 5);
        x.constraint();
        keyIsGone("a constraint", x);
        for (int n = 0; n <= 6; n++) {
            ProofMill y = proven();
            y.publics(n);
            keyIsGone("publics(" + n + ")", y);
            y.setup(5, 7, 11, 13, 17);
            due("a new key", y.about(3), 1);
        }
        ProofMill full = withConstraints(16);
        full.setup(5, 7, 11, 13, 17);
        refused("constraint() at 16", () -> full.constraint(), STATE);
        due("a constraint that does not come", full.about(3), 1);
    }

    static void keyIsGone(String by, ProofMill x) {
        due("about(3) after " + by, x.about(3), 0);
        for (int what = 0; what <= 2; what++) {
            due("key(" + what + ", 0) after " + by, x.key(what, 0), NONE);
        }
        due("key(1, 2) after " + by, x.key(1, 2), NONE);
        refused("verify() after " + by, () -> x.verify(), STATE);
        refused("prove(1, 2) after " + by, () -> x.prove(1, 2), STATE);
    }

    static void fulfilAll() {
        says("A PROOF from values that fulfil all constraints, and two numbers r and s");
        for (int count : new int[] {1, 2, 3, 16}) {
            for (int open = 0; open < count; open++) {
                ProofMill x = new ProofMill();
                for (int j = 0; j < count; j++) {
                    x.term(0, j == open ? 1 : 0, 1);
                    x.term(1, 0, 1);
                    x.term(2, 0, 1);
                    x.constraint();
                }
                x.setup(5, 7, 11, 13, 17);
                due("open() with " + open + " of " + count, x.open(), open);
                refused("prove(0, 0) with " + open + " of " + count, () -> x.prove(0, 0), ARITHMETIC);
                due("about(4)", x.about(4), 0);
                x.value(1, 1);
                due("prove(0, 0) when it is fulfilled", x.prove(0, 0), true);
                due("verify()", x.verify(), true);
            }
        }
    }

    static void quotientPolynomial() {
        says("the QUOTIENT H is the polynomial (U * V - Y) / (X^N - 1)");
        for (int count = 1; count <= 16; count++) {
            int n = SIZES[count];
            ProofMill x = chain(count);
            x.setup(5, 7, 11, 13, 17);
            x.prove(3, 4);
            long[] left = new long[2 * n];
            for (int i = 0; i < n; i++) {
                long u = times(2, x.polynomial(0, 1, i));
                for (int k = 0; k < n; k++) {
                    left[i + k] = mod(left[i + k] + times(u, times(5, x.polynomial(1, 2, k))));
                }
            }
            for (int k = 0; k < n; k++) {
                left[k] = mod(left[k] - x.polynomial(2, 3, k));
            }
            long[] right = new long[2 * n];
            for (int k = 0; k < n; k++) {
                right[k] = mod(-x.quotient(k));
                right[k + n] = x.quotient(k);
            }
            for (int k = 0; k < 2 * n; k++) {
                due("coefficient " + k + " of H * (X^N - 1) with " + count, (int) right[k], (int) left[k]);
            }
        }
    }

    /** With TAU 3 the first point weighs 2, H is 9 / 4 and T is 8: U and V are 6 at TAU. */
    static ProofMill provenWith(int r, int s) {
        ProofMill x = keyed();
        x.setup(3, 7, 11, 13, 17);
        due("prove(" + r + ", " + s + ")", x.prove(r, s), true);
        return x;
    }

    static void firstElements() {
        says("A = ALPHA + U at TAU + r * DELTA; B = BETA + V at TAU + s * DELTA");
        for (int r : LEAST_NUMBERS_AND_LAST) {
            for (int s : LEAST_NUMBERS_AND_LAST) {
                ProofMill x = provenWith(r, s);
                due("A with r " + r, x.proof(0), mod(7 + 6 + times(17, r)));
                due("B with s " + s, x.proof(1), mod(11 + 6 + times(17, s)));
            }
        }
        ProofMill drafted = keyed();
        drafted.setup(3, 7, 11, 13, 17);
        for (int i = 0; i < 16; i++) {
            drafted.term(0, i, 5);
            drafted.term(1, i, 6);
        }
        drafted.prove(0, 0);
        due("A beside a draft", drafted.proof(0), 13);
        due("B beside a draft", drafted.proof(1), 17);
        due("verify() beside a draft", drafted.verify(), true);
    }

    static void lastElement() {
        says("+ H at TAU * T) / DELTA + A * s + B * r - r * s * DELTA");
        for (int r : LEAST_NUMBERS_AND_LAST) {
            for (int s : LEAST_NUMBERS_AND_LAST) {
                ProofMill x = provenWith(r, s);
                int a = mod(7 + 6 + times(17, r));
                int b = mod(11 + 6 + times(17, s));
                // The mix of the private x2 is (11 + 7) * 2, its value 3; H * T is 18.
                int c = times(3 * 36 + 18, inverse(17));
                due("C with " + r + ", " + s, x.proof(2), mod((long) c + times(a, s) + times(b, r) - times(times(r, s), 17)));
                due("verify()", x.verify(), true);
            }
        }
    }

    static void variablesAbovePublics() {
        says("the sum of value * mix of all variables above PUBLICS");
        for (int n = 0; n <= 6; n++) {
            ProofMill x = wide(n);
            x.setup(3, 7, 11, 13, 1);
            x.prove(0, 0);
            long sum = 0;
            for (int i = n + 1; i < 16; i++) {
                sum += (100 + i) * (11L * 2 * (i + 1));
            }
            due("C with PUBLICS " + n, x.proof(2), mod(sum));
        }
    }

    static void toVerify() {
        says("whether A * B is ALPHA * BETA + the sum of input * mix of the variables 0 .. PUBLICS + C * DELTA");
        ProofMill x = proven();
        for (int k = 0; k < 3; k++) {
            int element = x.proof(k);
            x.alter(k, element + 1);
            due("verify() with one more at " + k, x.verify(), false);
            x.alter(k, element - 1);
            due("verify() with one less at " + k, x.verify(), false);
            x.alter(k, element);
            due("verify() as it was made", x.verify(), true);
        }
        for (int n = 0; n <= 6; n++) {
            equationOf(n);
        }
    }

    /** With A 0, C must be -(ALPHA * BETA + the sum of input * mix) / DELTA. */
    static void equationOf(int n) {
        ProofMill x = wide(n);
        x.setup(3, 7, 11, 13, 17);
        x.prove(0, 0);
        long sum = 7 * 11 + 11 * 2;
        for (int i = 1; i <= n; i++) {
            sum += (100 + i) * (11L * 2 * (i + 1));
        }
        x.alter(0, 0);
        int c = times(-sum, inverse(17));
        x.alter(2, c);
        due("verify() with A 0 and PUBLICS " + n, x.verify(), true);
        x.alter(2, mod(c + 1L));
        due("verify() with C one more", x.verify(), false);
        x.alter(2, mod(c - 1L));
        due("verify() with C one less", x.verify(), false);
        x.alter(2, c);
        x.alter(0, 1);
        due("verify() with A 1", x.verify(), false);
        x.alter(1, 0);
        due("verify() with B 0", x.verify(), true);
    }

    static void inputsOfTheirOwn() {
        says("the INPUTS being numbers of their own");
        ProofMill x = proven();
        x.value(1, 16);
        x.value(2, 4);
        due("verify() after other values", x.verify(), true);
        x.input(1, 16);
        due("verify() after another input", x.verify(), false);
        x.value(1, 9);
        x.value(2, 3);
        due("open() does not look at the inputs", x.open(), NONE);
        x.prove(1, 2);
        due("nor does a proof", x.proof(2), 293601379);
        due("verify() of the new proof", x.verify(), false);
        x.input(1, 9);
        due("verify() with its input", x.verify(), true);
        x.publics(0);
        x.publics(1);
        x.setup(5, 7, 11, 13, 17);
        due("inputs stay when PUBLICS are set", x.verify(), true);
    }

    static void inputsAtFirst() {
        says("(input 0 is always 1, the others 0 at first)");
        for (int i = 0; i <= 6; i++) {
            int first = i == 0 ? 1 : 0;
            for (int guess : new int[] {0, 1, 2, P - 1}) {
                due("input " + i + " is " + guess, inputIs(onlyVariable(i), i, guess), guess == first);
            }
            if (i > 0) {
                ProofMill x = onlyVariable(i);
                x.input(i, P - 1);
                due("input " + i + " when it is set", inputIs(x, i, P - 1), true);
                x.input(i, 0);
                due("input " + i + " when it is 0 again", inputIs(x, i, 0), true);
            }
        }
        ProofMill x = onlyVariable(0);
        refused("input(0, 1)", () -> x.input(0, 1), ARGUMENT);
        refused("input(0, 0)", () -> x.input(0, 0), ARGUMENT);
        due("input 0 as before", inputIs(x, 0, 1), true);
    }

    /** Variable i alone has a mix, and it is 2; the proof is of a time when there was no constraint. */
    static ProofMill onlyVariable(int i) {
        ProofMill x = new ProofMill();
        x.setup(3, 7, 11, 13, 17);
        x.prove(0, 0);
        x.publics(6);
        x.term(2, i, 1);
        x.constraint();
        x.setup(3, 7, 11, 1, 1);
        return x;
    }

    static boolean inputIs(ProofMill x, int i, int guess) {
        x.alter(0, 0);
        x.alter(2, mod(-77L - 2L * guess));
        return x.verify();
    }

    // Promise 1.

    static void newConstraints() {
        says("Promise 1: No constraints");
        ProofMill x = new ProofMill();
        due("about(0)", x.about(0), 0);
        due("about(1)", x.about(1), 2);
        due("open()", x.open(), NONE);
        due("polynomial(0, 0, 1)", x.polynomial(0, 0, 1), 0);
        due("polynomial(0, 0, 2)", x.polynomial(0, 0, 2), NONE);
        due("constraint()", x.constraint(), 0);
    }

    static void newDraft() {
        says("Promise 1: an empty draft of one");
        ProofMill x = new ProofMill();
        for (int row = 0; row < 3; row++) {
            for (int i = 0; i < 16; i++) {
                due("term(" + row + ", " + i + ", 0)", x.term(row, i, 0), 0);
            }
        }
    }

    static void newValuesAndInputs() {
        says("Promise 1: all values (but that of variable 0) and inputs 0");
        for (int i = 0; i < 16; i++) {
            for (int guess : new int[] {0, 1, P - 1}) {
                ProofMill x = new ProofMill();
                x.term(0, i, 1);
                x.term(1, 0, 1);
                x.term(2, 0, guess);
                x.constraint();
                due("variable " + i + " is " + guess, x.open() == NONE, guess == (i == 0 ? 1 : 0));
            }
        }
        for (int i = 1; i <= 6; i++) {
            due("input " + i + " is 0", inputIs(onlyVariable(i), i, 0), true);
            due("input " + i + " is 1", inputIs(onlyVariable(i), i, 1), false);
        }
    }

    static void newKey() {
        says("Promise 1: no key");
        ProofMill x = new ProofMill();
        due("about(3)", x.about(3), 0);
        for (int what = -1; what <= 3; what++) {
            for (int i = -1; i <= 16; i++) {
                due("key(" + what + ", " + i + ")", x.key(what, i), NONE);
            }
        }
        refused("prove(0, 0)", () -> x.prove(0, 0), STATE);
        refused("verify()", () -> x.verify(), STATE);
    }

    static void newProof() {
        says("Promise 1: no proof");
        ProofMill x = new ProofMill();
        due("about(4)", x.about(4), 0);
        for (int k = -1; k <= 16; k++) {
            due("proof(" + k + ")", x.proof(k), NONE);
            due("quotient(" + k + ")", x.quotient(k), NONE);
        }
        refused("alter(0, 0)", () -> x.alter(0, 0), STATE);
        x.setup(5, 7, 11, 13, 17);
        due("about(4) under a key", x.about(4), 0);
        refused("verify() under a key", () -> x.verify(), STATE);
    }

    // Promises 2 to 6.

    static void termGrows() {
        says("Promise 2: In the draft, the coefficient of a variable in a row grows by c: answers it.");
        ProofMill x = new ProofMill();
        for (int row = 0; row < 3; row++) {
            for (int i = 0; i < 16; i += 15) {
                due("0 and 0", x.term(row, i, 0), 0);
                due("0 and 5", x.term(row, i, 5), 5);
                due("5 and 6", x.term(row, i, 6), 11);
                due("11 and P - 12", x.term(row, i, P - 12), P - 1);
                due("P - 1 and 0", x.term(row, i, 0), P - 1);
                due("P - 1 and 1", x.term(row, i, 1), 0);
                due("0 and P - 1", x.term(row, i, P - 1), P - 1);
                due("P - 1 and P - 1", x.term(row, i, P - 1), P - 2);
            }
        }
        due("a draft is no constraint", x.open(), NONE);
        due("a draft is in no polynomial", x.polynomial(0, 0, 0), 0);
        ProofMill full = withConstraints(16);
        due("a draft beside 16", full.term(2, 15, P - 1), P - 1);
        due("a draft beside 16", full.term(2, 15, 2), 1);
        due("and no constraint", full.polynomial(2, 15, 0), 0);
    }

    static void termRefused() {
        says("Promise 2: IllegalArgumentException: row is not 0 .. 2, variable not 0 .. 15, or c not 0 .. P - 1.");
        ProofMill x = new ProofMill();
        for (int row : new int[] {-1, 3, 4, MIN, MAX}) {
            refused("term(" + row + ", 0, 1)", () -> x.term(row, 0, 1), ARGUMENT);
            refused("term(" + row + ", 15, 1)", () -> x.term(row, 15, 1), ARGUMENT);
        }
        for (int variable : new int[] {-1, 16, 17, MIN, MAX}) {
            refused("term(0, " + variable + ", 1)", () -> x.term(0, variable, 1), ARGUMENT);
            refused("term(2, " + variable + ", 1)", () -> x.term(2, variable, 1), ARGUMENT);
        }
        for (int c : NO_NUMBERS) {
            refused("term(0, 0, " + c + ")", () -> x.term(0, 0, c), ARGUMENT);
            refused("term(2, 15, " + c + ")", () -> x.term(2, 15, c), ARGUMENT);
        }
        for (int row = 0; row < 3; row++) {
            for (int i = 0; i < 16; i++) {
                due("term(" + row + ", " + i + ", 0)", x.term(row, i, 0), 0);
            }
        }
    }

    static void constraintAnswers() {
        says("Promise 3: The draft becomes a constraint, and is empty; answers its number, from 0.");
        ProofMill x = new ProofMill();
        for (int j = 0; j < 16; j++) {
            x.term(j % 3, j, j + 1);
            due("constraint()", x.constraint(), j);
            due("about(0)", x.about(0), j + 1);
            due("the draft", x.term(j % 3, j, 0), 0);
        }
        ProofMill emptied = new ProofMill();
        for (int round = 0; round < 3; round++) {
            for (int row = 0; row < 3; row++) {
                for (int i = 0; i < 16; i++) {
                    due("the draft of round " + round, emptied.term(row, i, P - 1), P - 1);
                }
            }
            emptied.constraint();
        }
        due("an empty draft becomes one too", withConstraints(2).constraint(), 2);
    }

    static void constraintRefused() {
        says("Promise 3: IllegalStateException: there are 16.");
        ProofMill x = withConstraints(15);
        x.term(2, 15, 4);
        due("constraint() with 15", x.constraint(), 15);
        x.term(2, 15, 5);
        refused("constraint() with 16", () -> x.constraint(), STATE);
        due("the draft stays", x.term(2, 15, 0), 5);
        due("the 16th is as it was", x.polynomial(2, 15, 0), times(4, inverse(16)));
        due("about(0)", x.about(0), 16);
    }

    static void publicsTaken() {
        says("Promise 4: PUBLICS is n: true.");
        ProofMill x = new ProofMill();
        for (int n : new int[] {0, 1, 2, 3, 4, 5, 6, 6, 0, 0}) {
            due("publics(" + n + ")", x.publics(n), true);
            due("about(2)", x.about(2), n);
        }
    }

    static void publicsRefused() {
        says("Promise 4: IllegalArgumentException: n is not 0 .. 6.");
        for (int before : new int[] {0, 6}) {
            ProofMill x = new ProofMill();
            x.publics(before);
            for (int n : new int[] {-1, 7, 8, 15, 16, MIN, MAX}) {
                refused("publics(" + n + ")", () -> x.publics(n), ARGUMENT);
                due("about(2)", x.about(2), before);
            }
        }
    }

    static void valueTaken() {
        says("Promise 5: The value of a variable: true.");
        for (int i = 1; i < 16; i++) {
            ProofMill x = new ProofMill();
            for (int v : LEAST_NUMBERS_AND_LAST) {
                due("value(" + i + ", " + v + ")", x.value(i, v), true);
                x.term(0, i, 1);
                x.term(1, 0, 1);
                x.term(2, 0, v);
                int j = x.constraint();
                due("the first value that is not " + v, x.open(), j == 0 ? NONE : 0);
            }
            x.value(i, 0);
            due("0 again", x.open(), 1);
        }
    }

    static void valueRefused() {
        says("Promise 5: IllegalArgumentException: variable is not 1 .. 15, or v not 0 .. P - 1.");
        ProofMill x = new ProofMill();
        for (int i : new int[] {0, -1, 16, 17, MIN, MAX}) {
            refused("value(" + i + ", 0)", () -> x.value(i, 0), ARGUMENT);
            refused("value(" + i + ", 1)", () -> x.value(i, 1), ARGUMENT);
        }
        for (int v : NO_NUMBERS) {
            refused("value(1, " + v + ")", () -> x.value(1, v), ARGUMENT);
            refused("value(15, " + v + ")", () -> x.value(15, v), ARGUMENT);
        }
        due("value(1, 0)", x.value(1, 0), true);
        due("value(15, P - 1)", x.value(15, P - 1), true);
    }

    /** Constraint j - 1 is x_j * x_j = x_j. */
    static ProofMill bits() {
        ProofMill x = new ProofMill();
        for (int i = 1; i < 16; i++) {
            x.term(0, i, 1);
            x.term(1, i, 1);
            x.term(2, i, 1);
            x.constraint();
        }
        return x;
    }

    static void openFirst() {
        says("Promise 6: The first constraint that the values do not fulfil");
        ProofMill x = bits();
        x.term(0, 15, 1);
        x.term(1, 0, 1);
        x.constraint();
        x.value(15, 1);
        due("the last of 16 alone", x.open(), 15);
        for (int i = 15; i >= 1; i--) {
            x.value(i, 2);
            due("the first of several", x.open(), i - 1);
        }
        for (int i = 1; i < 15; i++) {
            x.value(i, 1);
            due("the next", x.open(), i);
        }
    }

    static void openNone() {
        says("Promise 6: NONE when they fulfil all.");
        due("no constraints", new ProofMill().open(), NONE);
        due("16 empty constraints", withConstraints(16).open(), NONE);
        ProofMill x = bits();
        due("all 0", x.open(), NONE);
        for (int i = 1; i < 16; i++) {
            x.value(i, 1);
            due("some 1", x.open(), NONE);
        }
        x.term(2, 0, 1);
        due("a draft that is not fulfilled", x.open(), NONE);
        x.constraint();
        due("the same as a constraint", x.open(), 15);
    }

    // Promises 7 to 11.

    static void setupAnswers() {
        says("Promise 7: A key: answers N.");
        for (int count = 0; count <= 16; count++) {
            ProofMill x = withConstraints(count);
            due("setup with " + count, x.setup(2, 1, 1, 1, 1), SIZES[count]);
            due("about(3)", x.about(3), 1);
            due("key(0, 1)", x.key(0, 1), 2);
            due("setup again", x.setup(P - 2, P - 1, P - 1, P - 1, P - 1), SIZES[count]);
            due("key(0, 1) of the new key", x.key(0, 1), P - 2);
        }
    }

    static void setupRefused() {
        says("Promise 7: IllegalArgumentException: a number is not 1 .. P - 1.");
        for (int place = 0; place < 5; place++) {
            int at = place;
            ProofMill x = keyed();
            for (int number : new int[] {0, -1, P, P + 1, MIN, MAX}) {
                refused("setup with " + number + " at " + place, () -> setupWith(x, at, number), ARGUMENT);
            }
            due("the key before stays", x.key(1, 1), 383940136);
            if (place == 0) {
                due("setup(2, ..)", setupWith(x, place, 2), 2);
                due("setup(P - 2, ..)", setupWith(x, place, P - 2), 2);
            } else {
                due("setup with 1 at " + place, setupWith(x, place, 1), 2);
                due("setup with P - 1 at " + place, setupWith(x, place, P - 1), 2);
            }
        }
    }

    static void setupWithoutT() {
        says("Promise 7: ArithmeticException: T is 0.");
        ProofMill x = new ProofMill();
        for (int count = 0; count <= 16; count++) {
            if (count > 0) {
                x.constraint();
            }
            refused("setup(1, ..) with " + count, () -> x.setup(1, 2, 3, 4, 5), ARITHMETIC);
            refused("setup(P - 1, ..) with " + count, () -> x.setup(P - 1, 2, 3, 4, 5), ARITHMETIC);
            due("no key", x.about(3), 0);
            x.setup(5, 7, 11, 13, 17);
            refused("setup(1, ..) beside a key", () -> x.setup(1, 2, 3, 4, 5), ARITHMETIC);
            due("the key before", x.key(0, 1), 5);
            due("its DELTA", x.key(2, 0), times(pow(5, SIZES[count]) - 1L, inverse(17)));
        }
        ProofMill grown = withConstraints(8);
        due("a root of order 16 with 8", grown.setup(root(16), 2, 3, 4, 5), 8);
        grown.constraint();
        refused("a root of order 16 with 9", () -> grown.setup(root(16), 2, 3, 4, 5), ARITHMETIC);
    }

    static void proveTaken() {
        says("Promise 8: A proof: true.");
        for (int count = 0; count <= 16; count++) {
            ProofMill x = chain(count);
            x.setup(5, 7, 11, 13, 17);
            due("prove(0, 0) with " + count, x.prove(0, 0), true);
            due("about(4)", x.about(4), 1);
            due("verify()", x.verify(), true);
            due("prove(P - 1, P - 1) with " + count, x.prove(P - 1, P - 1), true);
            due("verify()", x.verify(), true);
        }
    }

    static void proveRefused() {
        says("Promise 8: IllegalArgumentException: r or s is not 0 .. P - 1.");
        ProofMill x = keyed();
        for (int number : NO_NUMBERS) {
            refused("prove(" + number + ", 0)", () -> x.prove(number, 0), ARGUMENT);
            refused("prove(0, " + number + ")", () -> x.prove(0, number), ARGUMENT);
            refused("prove(" + number + ", " + number + ")", () -> x.prove(number, number), ARGUMENT);
        }
        due("about(4)", x.about(4), 0);
        ProofMill noKey = new ProofMill();
        refused("prove(-1, 0) without a key", () -> noKey.prove(-1, 0), ARGUMENT);
        x.value(1, 8);
        refused("prove(0, P), open", () -> x.prove(0, P), ARGUMENT);
    }

    static void proveWithoutKey() {
        says("Promise 8: IllegalStateException: there is no key.");
        ProofMill x = new ProofMill();
        refused("prove on a new object", () -> x.prove(0, 0), STATE);
        ProofMill y = chain(3);
        refused("prove, fulfilled", () -> y.prove(0, 0), STATE);
        y.value(1, 3);
        refused("prove, open", () -> y.prove(0, 0), STATE);
        y.setup(5, 7, 11, 13, 17);
        y.publics(0);
        refused("prove when the key has gone", () -> y.prove(0, 0), STATE);
    }

    static void proveOpen() {
        says("Promise 8: ArithmeticException, then: the values do not fulfil all constraints.");
        ProofMill x = proven();
        for (int v : new int[] {8, 10, 0, P - 9}) {
            x.value(1, v);
            refused("prove with 3 * 3 = " + v, () -> x.prove(3, 4), ARITHMETIC);
        }
        due("the proof before", x.proof(0), 33);
        due("its quotient", x.quotient(0), times(9, inverse(4)));
        x.value(1, 9);
        due("prove with 3 * 3 = 9", x.prove(3, 4), true);
        x.value(2, P - 3);
        due("prove with -3 * -3 = 9", x.prove(3, 4), true);
    }

    static void alterTaken() {
        says("Promise 9: Element k of the proof (0 A, 1 B, 2 C) becomes v: true.");
        for (int k = 0; k < 3; k++) {
            for (int v : LEAST_NUMBERS_AND_LAST) {
                ProofMill x = proven();
                int[] elements = {33, 54, 293601379};
                elements[k] = v;
                due("alter(" + k + ", " + v + ")", x.alter(k, v), true);
                for (int i = 0; i < 3; i++) {
                    due("proof(" + i + ")", x.proof(i), elements[i]);
                }
                due("the quotient stays", x.quotient(0), times(9, inverse(4)));
            }
        }
        ProofMill gone = proven();
        gone.publics(1);
        due("alter when the key has gone", gone.alter(2, 4), true);
        due("proof(2)", gone.proof(2), 4);
    }

    static void alterRefused() {
        says("Promise 9: IllegalArgumentException: k is not 0 .. 2, or v not 0 .. P - 1.");
        for (ProofMill x : new ProofMill[] {proven(), keyed(), new ProofMill()}) {
            for (int k : new int[] {-1, 3, 4, MIN, MAX}) {
                refused("alter(" + k + ", 0)", () -> x.alter(k, 0), ARGUMENT);
            }
            for (int v : NO_NUMBERS) {
                for (int k = 0; k < 3; k++) {
                    int at = k;
                    refused("alter(" + k + ", " + v + ")", () -> x.alter(at, v), ARGUMENT);
                }
            }
        }
    }

    static void alterWithoutProof() {
        says("Promise 9: IllegalStateException: there is no proof.");
        for (ProofMill x : new ProofMill[] {keyed(), new ProofMill()}) {
            for (int k = 0; k < 3; k++) {
                int at = k;
                refused("alter(" + k + ", 0)", () -> x.alter(at, 0), STATE);
                refused("alter(" + k + ", P - 1)", () -> x.alter(at, P - 1), STATE);
                due("proof(" + k + ")", x.proof(k), NONE);
            }
            due("about(4)", x.about(4), 0);
        }
    }

    static void inputTaken() {
        says("Promise 10: Input i: true.");
        for (int i = 1; i <= 6; i++) {
            for (int v : LEAST_NUMBERS_AND_LAST) {
                ProofMill x = onlyVariable(i);
                due("input(" + i + ", " + v + ")", x.input(i, v), true);
                due("input " + i + " is " + v, inputIs(x, i, v), true);
                due("input " + i + " is one more", inputIs(x, i, mod(v + 1L)), false);
            }
        }
    }

    static void inputRefused() {
        says("Promise 10: IllegalArgumentException: i is not 1 .. 6, or v not 0 .. P - 1.");
        for (int publics : new int[] {0, 6}) {
            ProofMill x = new ProofMill();
            x.publics(publics);
            for (int i : new int[] {0, -1, 7, 8, 15, 16, MIN, MAX}) {
                refused("input(" + i + ", 0)", () -> x.input(i, 0), ARGUMENT);
                refused("input(" + i + ", 1)", () -> x.input(i, 1), ARGUMENT);
            }
            for (int v : NO_NUMBERS) {
                refused("input(1, " + v + ")", () -> x.input(1, v), ARGUMENT);
                refused("input(6, " + v + ")", () -> x.input(6, v), ARGUMENT);
            }
            due("input(1, 0)", x.input(1, 0), true);
            due("input(6, P - 1)", x.input(6, P - 1), true);
        }
    }

    static void verifies() {
        says("Promise 11: Verifies the proof.");
        for (int count = 0; count <= 16; count++) {
            ProofMill x = chain(count);
            x.publics(3);
            x.setup(5, 7, 11, 13, 17);
            x.prove(3, 4);
            x.input(1, 2);
            x.input(2, 5);
            due("without its last input with " + count, x.verify(), count == 0);
            x.input(3, 1);
            due("with its inputs with " + count, x.verify(), true);
            due("once more", x.verify(), true);
            x.alter(2, mod(x.proof(2) + 1L));
            due("with another C with " + count, x.verify(), false);
            x.prove(5, 6);
            due("made anew with " + count, x.verify(), true);
        }
    }

    static void verifyWithout() {
        says("Promise 11: IllegalStateException: there is no key, or no proof.");
        ProofMill x = new ProofMill();
        refused("neither", () -> x.verify(), STATE);
        x.setup(5, 7, 11, 13, 17);
        refused("a key alone", () -> x.verify(), STATE);
        x.prove(0, 0);
        due("both", x.verify(), true);
        x.constraint();
        refused("a proof alone, by a constraint", () -> x.verify(), STATE);
        x.setup(5, 7, 11, 13, 17);
        due("both again", x.verify(), true);
        x.publics(0);
        refused("a proof alone, by publics", () -> x.verify(), STATE);
        x.setup(5, 8, 11, 13, 17);
        due("both, but another key", x.verify(), false);
    }

    // Promises 12 to 16.

    static void proofMadeLast() {
        says("Promise 12: Element k of the proof, made last");
        ProofMill x = proven();
        int[] first = {33, 54, 293601379};
        for (int k = 0; k < 3; k++) {
            due("proof(" + k + ")", x.proof(k), first[k]);
        }
        x.prove(0, 0);
        due("A of the next", x.proof(0), 16);
        due("B of the next", x.proof(1), 20);
        x.prove(1, 2);
        for (int k = 0; k < 3; k++) {
            due("proof(" + k + ") of the one after", x.proof(k), first[k]);
        }
    }

    static void proofNone() {
        says("Promise 12: NONE when there is none, or k is not 0 .. 2.");
        ProofMill x = keyed();
        for (int k : new int[] {-1, 0, 1, 2, 3, MIN, MAX}) {
            due("proof(" + k + ") without a proof", x.proof(k), NONE);
        }
        x.prove(1, 2);
        for (int k : new int[] {-1, 3, 4, MIN, MAX}) {
            due("proof(" + k + ")", x.proof(k), NONE);
        }
        x.alter(0, 0);
        due("an element that is 0", x.proof(0), 0);
        x.alter(2, P - 1);
        due("an element that is P - 1", x.proof(2), P - 1);
    }

    static void proofStays() {
        says("Promise 12: (It stays when the key goes.)");
        ProofMill x = proven();
        x.publics(0);
        due("A after publics", x.proof(0), 33);
        x.constraint();
        due("B after a constraint", x.proof(1), 54);
        x.setup(6, 5, 4, 3, 2);
        due("C under another key", x.proof(2), 293601379);
        due("about(4)", x.about(4), 1);
    }

    static void quotientMadeLast() {
        says("Promise 13: Coefficient k of the quotient of the proof made last");
        ProofMill x = proven();
        due("3 * 3", x.quotient(0), times(9, inverse(4)));
        x.value(2, 4);
        x.value(1, 16);
        due("before the next proof", x.quotient(0), times(9, inverse(4)));
        x.prove(0, 0);
        due("4 * 4", x.quotient(0), 4);
        x.value(2, 0);
        x.value(1, 0);
        x.prove(0, 0);
        due("0 * 0", x.quotient(0), 0);
        x.alter(0, 5);
        due("an altered proof", x.quotient(0), 0);
    }

    static void quotientZero() {
        says("Promise 13: (0 for k of N - 1 or more)");
        for (int count = 0; count <= 16; count++) {
            int n = SIZES[count];
            ProofMill x = chain(count);
            x.setup(5, 7, 11, 13, 17);
            x.prove(3, 4);
            if (count > 0) {
                int last = times(10, times(x.polynomial(0, 1, n - 1), x.polynomial(1, 2, n - 1)));
                due("coefficient N - 2 with " + count, x.quotient(n - 2), last);
                due("it is not 0", last != 0, true);
            }
            for (int k = n - 1; k < 16; k++) {
                due("coefficient " + k + " with " + count, x.quotient(k), 0);
            }
        }
        ProofMill grown = proven();
        for (int j = 0; j < 15; j++) {
            grown.constraint();
        }
        due("the N of the proof's time", grown.quotient(1), 0);
        due("it stays when the key goes", grown.quotient(0), times(9, inverse(4)));
    }

    static void quotientNone() {
        says("Promise 13: NONE when there is none, or k is not 0 .. 15.");
        ProofMill x = keyed();
        for (int k : new int[] {-1, 0, 1, 14, 15, 16, MIN, MAX}) {
            due("quotient(" + k + ") without a proof", x.quotient(k), NONE);
        }
        x.prove(1, 2);
        for (int k : new int[] {-1, 16, 17, MIN, MAX}) {
            due("quotient(" + k + ")", x.quotient(k), NONE);
        }
        due("quotient(15)", x.quotient(15), 0);
    }

    static void polynomialAsTheyAre() {
        says("Promise 14: Coefficient k of the polynomial of a row and variable, of the constraints as they are");
        ProofMill x = new ProofMill();
        for (int row = 0; row < 3; row++) {
            x.term(row, 5 * row, row + 1);
            due("a draft is no constraint", x.polynomial(row, 5 * row, 0), 0);
        }
        x.constraint();
        x.setup(5, 7, 11, 13, 17);
        for (int row = 0; row < 3; row++) {
            due("(1 + X) / 2", x.polynomial(row, 5 * row, 0), times(row + 1, inverse(2)));
            due("(1 + X) / 2", x.polynomial(row, 5 * row, 1), times(row + 1, inverse(2)));
            due("another variable", x.polynomial(row, 5 * row + 1, 1), 0);
        }
        x.constraint();
        x.constraint();
        for (int k = 0; k < 4; k++) {
            due("(1 + X + X^2 + X^3) / 4", x.polynomial(0, 0, k), inverse(4));
        }
        x.value(1, 5);
        x.publics(3);
        due("values and PUBLICS are not looked at", x.polynomial(1, 5, 3), times(2, inverse(4)));
    }

    static void polynomialNone() {
        says("Promise 14: NONE when there is none (k 0 .. N - 1).");
        for (int count = 0; count <= 16; count++) {
            ProofMill x = withConstraints(count);
            int n = SIZES[count];
            due("k 0 with " + count, x.polynomial(0, 0, 0), 0);
            due("k N - 1 with " + count, x.polynomial(2, 15, n - 1), 0);
            for (int k : new int[] {-1, n, n + 1, MIN, MAX}) {
                due("k " + k + " with " + count, x.polynomial(0, 0, k), NONE);
                due("k " + k + " with " + count, x.polynomial(2, 15, k), NONE);
            }
            for (int row : new int[] {-1, 3, 4, MIN, MAX}) {
                due("row " + row + " with " + count, x.polynomial(row, 0, 0), NONE);
            }
            for (int variable : new int[] {-1, 16, 17, MIN, MAX}) {
                due("variable " + variable + " with " + count, x.polynomial(0, variable, 0), NONE);
                due("variable " + variable + " with " + count, x.polynomial(2, variable, 0), NONE);
            }
        }
    }

    static void keyPowers() {
        says("Promise 15: what 0: TAU^i, i 0 .. N - 1");
        for (int count = 0; count <= 16; count++) {
            int n = SIZES[count];
            ProofMill x = withConstraints(count);
            for (int tau : new int[] {2, P - 2}) {
                x.setup(tau, 7, 11, 13, 17);
                for (int i = 0; i < n; i++) {
                    due("key(0, " + i + ") with " + count, x.key(0, i), pow(tau, i));
                }
                for (int i : new int[] {-1, n, n + 1, MIN, MAX}) {
                    due("key(0, " + i + ") with " + count, x.key(0, i), NONE);
                }
            }
        }
    }

    static void keyMixes() {
        says("Promise 15: 1: the mix of variable i / GAMMA, if i is at most PUBLICS, else / DELTA");
        for (int n = 0; n <= 6; n++) {
            ProofMill x = wide(n);
            x.setup(3, 1, 1, 2, 4);
            // The mix of variable i is 2 * (i + 1).
            for (int i = 0; i < 16; i++) {
                int mix = 2 * (i + 1);
                due("key(1, " + i + ") with PUBLICS " + n, x.key(1, i), i <= n ? mix / 2 : times(mix, inverse(4)));
            }
            for (int i : new int[] {-1, 16, 17, MIN, MAX}) {
                due("key(1, " + i + ") with PUBLICS " + n, x.key(1, i), NONE);
            }
        }
        ProofMill empty = new ProofMill();
        empty.setup(3, 1, 1, 2, 4);
        due("the mix of variable 0 without constraints", empty.key(1, 0), 0);
        due("the mix of variable 15 without constraints", empty.key(1, 15), 0);
    }

    static void keySteps() {
        says("Promise 15: 2: TAU^i * T / DELTA, i 0 .. N - 2.");
        for (int count = 0; count <= 16; count++) {
            int n = SIZES[count];
            ProofMill x = withConstraints(count);
            x.setup(P - 3, 7, 11, 13, 17);
            int t = mod(pow(P - 3, n) - 1L);
            for (int i = 0; i <= n - 2; i++) {
                due("key(2, " + i + ") with " + count, x.key(2, i), times(times(pow(P - 3, i), t), inverse(17)));
            }
            for (int i : new int[] {-1, n - 1, n, MIN, MAX}) {
                due("key(2, " + i + ") with " + count, x.key(2, i), NONE);
            }
        }
    }

    static void keyNone() {
        says("Promise 15: NONE when there is no key, or no such element.");
        ProofMill x = proven();
        for (int what : new int[] {-1, 3, 4, MIN, MAX}) {
            for (int i = -1; i <= 2; i++) {
                due("key(" + what + ", " + i + ")", x.key(what, i), NONE);
            }
        }
        x.publics(1);
        for (int what = -1; what <= 3; what++) {
            for (int i = -1; i <= 16; i++) {
                due("key(" + what + ", " + i + ") when it has gone", x.key(what, i), NONE);
            }
        }
        x.setup(5, 7, 11, 13, 17);
        due("key(1, 1) of the new key", x.key(1, 1), 383940136);
        ProofMill none = new ProofMill();
        refused("setup(1, ..)", () -> none.setup(1, 2, 3, 4, 5), ARITHMETIC);
        due("key(0, 0) when setup was refused", none.key(0, 0), NONE);
    }

    static void aboutEach() {
        says("Promise 16: what 0: constraints; 1: N; 2: PUBLICS; 3: 1 if there is a key, else 0; 4: 1 if there is a proof, else 0.");
        ProofMill x = new ProofMill();
        abouts(x, 0, 2, 0, 0, 0);
        x.publics(6);
        abouts(x, 0, 2, 6, 0, 0);
        x.setup(5, 7, 11, 13, 17);
        abouts(x, 0, 2, 6, 1, 0);
        x.prove(0, 0);
        abouts(x, 0, 2, 6, 1, 1);
        for (int count = 1; count <= 16; count++) {
            x.constraint();
            abouts(x, count, SIZES[count], 6, 0, 1);
        }
        x.setup(5, 7, 11, 13, 17);
        abouts(x, 16, 16, 6, 1, 1);
        x.publics(0);
        abouts(x, 16, 16, 0, 0, 1);
    }

    static void abouts(ProofMill x, int... wants) {
        for (int what = 0; what < 5; what++) {
            due("about(" + what + ")", x.about(what), wants[what]);
        }
    }

    static void aboutNone() {
        says("Promise 16: NONE for another what.");
        for (ProofMill x : new ProofMill[] {new ProofMill(), proven(), withConstraints(16)}) {
            for (int what : new int[] {-1, 5, 6, 16, MIN, MAX}) {
                due("about(" + what + ")", x.about(what), NONE);
            }
        }
    }
}
