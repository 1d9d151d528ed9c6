/** A mill for short proofs that values fulfil constraints; the document says what each call answers. */
public final class ProofMill {
    public static final int NONE = -1;

    private static final int P = 998244353;
    private static final int GENERATOR = 3;
    private static final int VARIABLES = 16;
    private static final int ROWS = 3;
    private static final int LEAST_SIZE = 2;
    private static final int MOST_CONSTRAINTS = 16;
    private static final int MOST_PUBLICS = 6;
    private static final int ELEMENTS = 3;

    private final Circuit circuit;
    private final Domain domain;
    private final Key currentKey;
    private final Proof lastProof;
    private final int[] values;
    private final int[] inputs;
    private int publicCount;

    // Work rows, made once and written anew by each call that needs them: no answer depends on what they held.
    private final int[] leftPoints;
    private final int[] rightPoints;
    private final int[] leftCoefficients;
    private final int[] rightCoefficients;

    public ProofMill() {
        circuit = new Circuit();
        domain = new Domain();
        currentKey = new Key();
        lastProof = new Proof();
        values = new int[VARIABLES];
        values[0] = 1;
        inputs = new int[MOST_PUBLICS + 1];
        inputs[0] = 1;
        leftPoints = new int[MOST_CONSTRAINTS];
        rightPoints = new int[MOST_CONSTRAINTS];
        leftCoefficients = new int[MOST_CONSTRAINTS];
        rightCoefficients = new int[MOST_CONSTRAINTS];
    }

    public int term(int row, int variable, int c) throws IllegalArgumentException {
        if (!isBelow(row, ROWS) || !isBelow(variable, VARIABLES) || !isBelow(c, P)) {
            throw new IllegalArgumentException();
        }
        return circuit.growDraft(row, variable, c);
    }

    public int constraint() throws IllegalStateException {
        if (circuit.count() >= MOST_CONSTRAINTS) {
            throw new IllegalStateException();
        }
        int number = circuit.closeDraft();
        domain.fit(circuit.count());
        currentKey.drop();
        return number;
    }

    public boolean publics(int n) throws IllegalArgumentException {
        if (!isBelow(n, MOST_PUBLICS + 1)) {
            throw new IllegalArgumentException();
        }
        publicCount = n;
        currentKey.drop();
        return true;
    }

    public boolean value(int variable, int v) throws IllegalArgumentException {
        if (variable == 0 || !isBelow(variable, VARIABLES) || !isBelow(v, P)) {
            throw new IllegalArgumentException();
        }
        values[variable] = v;
        return true;
    }

    public int open() {
        return circuit.firstOpen(values);
    }

    public int setup(int tau, int alpha, int beta, int gamma, int delta)
            throws IllegalArgumentException, ArithmeticException {
        if (!isUnit(tau) || !isUnit(alpha) || !isUnit(beta) || !isUnit(gamma) || !isUnit(delta)) {
            throw new IllegalArgumentException();
        }
        if (domain.vanishingAt(tau) == 0) {
            throw new ArithmeticException();
        }
        currentKey.take(tau, alpha, beta, gamma, delta);
        currentKey.mixAll(circuit, domain);
        return domain.size();
    }

    public boolean prove(int r, int s) throws IllegalArgumentException, IllegalStateException, ArithmeticException {
        if (!isBelow(r, P) || !isBelow(s, P)) {
            throw new IllegalArgumentException();
        }
        if (!currentKey.isMade()) {
            throw new IllegalStateException();
        }
        if (circuit.firstOpen(values) != NONE) {
            throw new ArithmeticException();
        }
        circuit.rowSums(0, values, leftPoints);
        circuit.rowSums(1, values, rightPoints);
        domain.interpolate(leftPoints, leftCoefficients);
        domain.interpolate(rightPoints, rightCoefficients);
        lastProof.divide(leftCoefficients, rightCoefficients, domain.size());
        makeElements(r, s);
        return true;
    }

    private void makeElements(int r, int s) {
        int delta = currentKey.delta();
        int a = Field.sum(currentKey.firstElement(leftPoints), Field.product(r, delta));
        int b = Field.sum(currentKey.secondElement(rightPoints), Field.product(s, delta));
        int hidden = Field.sum(
                currentKey.mixSum(values, publicCount + 1, VARIABLES - 1),
                Field.product(lastProof.quotientAt(currentKey.tau()), currentKey.vanishing()));
        int c = Field.ratio(hidden, delta);
        c = Field.sum(c, Field.product(a, s));
        c = Field.sum(c, Field.product(b, r));
        c = Field.difference(c, Field.product(Field.product(r, s), delta));
        lastProof.keep(a, b, c);
    }

    public boolean alter(int k, int v) throws IllegalArgumentException, IllegalStateException {
        if (!isBelow(k, ELEMENTS) || !isBelow(v, P)) {
            throw new IllegalArgumentException();
        }
        if (!lastProof.isMade()) {
            throw new IllegalStateException();
        }
        lastProof.setElement(k, v);
        return true;
    }

    public boolean input(int i, int v) throws IllegalArgumentException {
        if (i == 0 || !isBelow(i, MOST_PUBLICS + 1) || !isBelow(v, P)) {
            throw new IllegalArgumentException();
        }
        inputs[i] = v;
        return true;
    }

    public boolean verify() throws IllegalStateException {
        if (!currentKey.isMade() || !lastProof.isMade()) {
            throw new IllegalStateException();
        }
        int shown = Field.product(lastProof.element(0), lastProof.element(1));
        int due = Field.sum(
                Field.product(currentKey.alpha(), currentKey.beta()),
                currentKey.mixSum(inputs, 0, publicCount));
        return shown == Field.sum(due, Field.product(lastProof.element(2), currentKey.delta()));
    }

    public int proof(int k) {
        return lastProof.isMade() && isBelow(k, ELEMENTS) ? lastProof.element(k) : NONE;
    }

    public int quotient(int k) {
        return lastProof.isMade() && isBelow(k, MOST_CONSTRAINTS) ? lastProof.quotientCoefficient(k) : NONE;
    }

    public int polynomial(int row, int variable, int k) {
        if (!isBelow(row, ROWS) || !isBelow(variable, VARIABLES) || !isBelow(k, domain.size())) {
            return NONE;
        }
        circuit.column(row, variable, leftPoints);
        return domain.coefficient(leftPoints, k);
    }

    public int key(int what, int i) {
        if (!currentKey.isMade()) {
            return NONE;
        }
        switch (what) {
            case 0:
                return isBelow(i, domain.size()) ? Field.power(currentKey.tau(), i) : NONE;
            case 1:
                return isBelow(i, VARIABLES) ? currentKey.sharedMix(i, publicCount) : NONE;
            case 2:
                return isBelow(i, domain.size() - 1) ? currentKey.vanishingStep(i) : NONE;
            default:
                return NONE;
        }
    }

    public int about(int what) {
        switch (what) {
            case 0:
                return circuit.count();
            case 1:
                return domain.size();
            case 2:
                return publicCount;
            case 3:
                return currentKey.isMade() ? 1 : 0;
            case 4:
                return lastProof.isMade() ? 1 : 0;
            default:
                return NONE;
        }
    }

    private static boolean isBelow(int a, int bound) {
        return a >= 0 && a < bound;
    }

    private static boolean isUnit(int a) {
        return a > 0 && a < P;
    }

    /** Arithmetic modulo P on numbers 0 .. P - 1. */
    private static final class Field {
        // Two numbers below P add up to less than 2^31, so int is wide enough here.
        static int sum(int a, int b) {
            int c = a + b;
            return c >= P ? c - P : c;
        }

        static int difference(int a, int b) {
            return a >= b ? a - b : a - b + P;
        }

        static int product(int a, int b) {
            return (int) ((long) a * b % P);
        }

        static int power(int base, int exponent) {
            int result = 1;
            int square = base;
            for (int rest = exponent; rest > 0; rest /= 2) {
                if (rest % 2 == 1) {
                    result = product(result, square);
                }
                square = product(square, square);
            }
            return result;
        }

        // P is prime, so b^(P - 2) is 1 / b for every b but 0.
        static int ratio(int a, int b) {
            return product(a, power(b, P - 2));
        }
    }

    /** The constraints as they are; the slot behind the last one is the draft, hence one slot more than constraints. */
    private static final class Circuit {
        private final int[] coefficients;
        private int count;

        Circuit() {
            coefficients = new int[(MOST_CONSTRAINTS + 1) * ROWS * VARIABLES];
            count = 0;
        }

        int count() {
            return count;
        }

        int growDraft(int row, int variable, int c) {
            int place = start(count, row) + variable;
            coefficients[place] = Field.sum(coefficients[place], c);
            return coefficients[place];
        }

        // The slot that becomes the draft has never been written, so the new draft is empty.
        int closeDraft() {
            int number = count;
            count = number + 1;
            return number;
        }

        int firstOpen(int[] values) {
            for (int j = 0; j < count; j++) {
                int made = Field.product(rowSum(j, 0, values), rowSum(j, 1, values));
                if (made != rowSum(j, 2, values)) {
                    return j;
                }
            }
            return NONE;
        }

        void rowSums(int row, int[] values, int[] points) {
            for (int j = 0; j < MOST_CONSTRAINTS; j++) {
                points[j] = j < count ? rowSum(j, row, values) : 0;
            }
        }

        void column(int row, int variable, int[] points) {
            for (int j = 0; j < MOST_CONSTRAINTS; j++) {
                points[j] = j < count ? coefficients[start(j, row) + variable] : 0;
            }
        }

        /** The value at TAU of the polynomial of a row and variable, the constraints' weights at TAU being given. */
        int columnAt(int row, int variable, int[] weights) {
            int sum = 0;
            for (int j = 0; j < count; j++) {
                sum = Field.sum(sum, Field.product(coefficients[start(j, row) + variable], weights[j]));
            }
            return sum;
        }

        private int rowSum(int j, int row, int[] values) {
            int start = start(j, row);
            int sum = 0;
            for (int i = 0; i < VARIABLES; i++) {
                sum = Field.sum(sum, Field.product(coefficients[start + i], values[i]));
            }
            return sum;
        }

        private static int start(int j, int row) {
            return (j * ROWS + row) * VARIABLES;
        }
    }

    /** The points W^0 .. W^(N - 1) at which the polynomials are given. */
    private static final class Domain {
        // W^-j: turning values at the points into coefficients needs the roots backwards only.
        private final int[] backRoots;
        private int size;
        private int oneOverSize;

        Domain() {
            backRoots = new int[MOST_CONSTRAINTS];
            fit(0);
        }

        int size() {
            return size;
        }

        // Halving the exponent with each doubling of N keeps every divisor a constant; P - 1 is 119 * 2^23, so
        // nothing is left over.
        void fit(int constraints) {
            size = LEAST_SIZE;
            int exponent = (P - 1) / LEAST_SIZE;
            while (size < constraints && size < MOST_CONSTRAINTS) {
                size *= 2;
                exponent /= 2;
            }
            oneOverSize = Field.ratio(1, size);
            int back = Field.ratio(1, Field.power(GENERATOR, exponent));
            backRoots[0] = 1;
            for (int j = 1; j < size; j++) {
                backRoots[j] = Field.product(backRoots[j - 1], back);
            }
        }

        /** x^N - 1, which is 0 at the points and nowhere else. */
        int vanishingAt(int x) {
            return Field.difference(Field.power(x, size), 1);
        }

        // N is a power of two, so the mask takes j * k modulo N, the number of different powers of W.
        int coefficient(int[] points, int k) {
            int sum = 0;
            for (int j = 0; j < size; j++) {
                sum = Field.sum(sum, Field.product(points[j], backRoots[(j * k) & (size - 1)]));
            }
            return Field.product(sum, oneOverSize);
        }

        void interpolate(int[] points, int[] coefficients) {
            for (int k = 0; k < size; k++) {
                coefficients[k] = coefficient(points, k);
            }
        }

        /** What the value at point j counts at x: the sum of (x / W^j)^k / N over k below N, which divides by no x. */
        int weight(int j, int x) {
            int step = Field.product(x, backRoots[j]);
            int sum = 0;
            for (int k = 0; k < size; k++) {
                sum = Field.sum(Field.product(sum, step), 1);
            }
            return Field.product(sum, oneOverSize);
        }
    }

    /** The five secret numbers and what is reckoned from them and the constraints. */
    private static final class Key {
        private final int[] weights;
        private final int[] mixes;
        private boolean made;
        private int tau;
        private int alpha;
        private int beta;
        private int gamma;
        private int delta;
        private int vanishing;

        Key() {
            weights = new int[MOST_CONSTRAINTS];
            mixes = new int[VARIABLES];
            made = false;
        }

        boolean isMade() {
            return made;
        }

        void drop() {
            made = false;
        }

        int tau() {
            return tau;
        }

        int alpha() {
            return alpha;
        }

        int beta() {
            return beta;
        }

        int delta() {
            return delta;
        }

        /** T of the document. */
        int vanishing() {
            return vanishing;
        }

        void take(int newTau, int newAlpha, int newBeta, int newGamma, int newDelta) {
            tau = newTau;
            alpha = newAlpha;
            beta = newBeta;
            gamma = newGamma;
            delta = newDelta;
        }

        void mixAll(Circuit circuit, Domain domain) {
            vanishing = domain.vanishingAt(tau);
            for (int j = 0; j < MOST_CONSTRAINTS; j++) {
                weights[j] = j < domain.size() ? domain.weight(j, tau) : 0;
            }
            for (int i = 0; i < VARIABLES; i++) {
                int left = Field.product(beta, circuit.columnAt(0, i, weights));
                int right = Field.product(alpha, circuit.columnAt(1, i, weights));
                mixes[i] = Field.sum(Field.sum(left, right), circuit.columnAt(2, i, weights));
            }
            made = true;
        }

        /** A without its share of r. */
        int firstElement(int[] leftPoints) {
            return Field.sum(alpha, atTau(leftPoints));
        }

        /** B without its share of s. */
        int secondElement(int[] rightPoints) {
            return Field.sum(beta, atTau(rightPoints));
        }

        int mixSum(int[] factors, int first, int last) {
            int sum = 0;
            for (int i = first; i <= last; i++) {
                sum = Field.sum(sum, Field.product(factors[i], mixes[i]));
            }
            return sum;
        }

        int sharedMix(int i, int publicCount) {
            return Field.ratio(mixes[i], i <= publicCount ? gamma : delta);
        }

        int vanishingStep(int i) {
            return Field.ratio(Field.product(Field.power(tau, i), vanishing), delta);
        }

        private int atTau(int[] points) {
            int sum = 0;
            for (int j = 0; j < MOST_CONSTRAINTS; j++) {
                sum = Field.sum(sum, Field.product(points[j], weights[j]));
            }
            return sum;
        }
    }

    /** The proof made last, with its quotient; it outlives the key. */
    private static final class Proof {
        private final int[] elements;
        private final int[] quotient;
        private boolean made;

        Proof() {
            elements = new int[ELEMENTS];
            quotient = new int[MOST_CONSTRAINTS];
            made = false;
        }

        boolean isMade() {
            return made;
        }

        int element(int k) {
            return elements[k];
        }

        void setElement(int k, int v) {
            elements[k] = v;
        }

        void keep(int a, int b, int c) {
            elements[0] = a;
            elements[1] = b;
            elements[2] = c;
            made = true;
        }

        int quotientCoefficient(int k) {
            return quotient[k];
        }

        /**
         * U * V - Y is H * X^N - H, and H has a degree below N: so H stands in the coefficients from X^N up,
         * which Y does not reach.
         */
        void divide(int[] left, int[] right, int size) {
            for (int k = 0; k < MOST_CONSTRAINTS; k++) {
                int sum = 0;
                for (int i = k + 1; i < size; i++) {
                    sum = Field.sum(sum, Field.product(left[i], right[k + size - i]));
                }
                quotient[k] = sum;
            }
        }

        int quotientAt(int x) {
            int sum = 0;
            for (int k = MOST_CONSTRAINTS - 1; k >= 0; k--) {
                sum = Field.sum(Field.product(sum, x), quotient[k]);
            }
            return sum;
        }
    }
}
