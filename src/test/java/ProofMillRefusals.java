import java.util.ArrayList;
import java.util.Arrays;
import java.util.List;

/**
 * "What throws changes nothing; IllegalArgumentException comes first.": in each of many states every call that the
 * document refuses there is made, must throw what the document says, and every later answer must be the one of an
 * object on which the refused call has not been made.
 */
public final class ProofMillRefusals {
    static final int P = 998244353;
    static final int MOST_CALLS = 512;
    static final int MIN = Integer.MIN_VALUE;
    static final int MAX = Integer.MAX_VALUE;
    static final String ARGUMENT = "throws.IllegalArgumentException";
    static final String STATE = "throws.IllegalStateException";
    static final String ARITHMETIC = "throws.ArithmeticException";

    static int wrong = 0;
    static int refusals = 0;

    static void fault(String words) {
        wrong++;
        if (wrong <= 60) {
            System.out.println(words);
        }
    }

    record Call(String name, int... with) {
        String on(ProofMill x) {
            try {
                return String.valueOf(answer(x, with));
            } catch (RuntimeException e) {
                return "throws." + e.getClass().getSimpleName();
            }
        }

        private Object answer(ProofMill x, int[] a) {
            switch (name) {
                case "term": return x.term(a[0], a[1], a[2]);
                case "constraint": return x.constraint();
                case "publics": return x.publics(a[0]);
                case "value": return x.value(a[0], a[1]);
                case "open": return x.open();
                case "setup": return x.setup(a[0], a[1], a[2], a[3], a[4]);
                case "prove": return x.prove(a[0], a[1]);
                case "alter": return x.alter(a[0], a[1]);
                case "input": return x.input(a[0], a[1]);
                case "verify": return x.verify();
                case "proof": return x.proof(a[0]);
                case "quotient": return x.quotient(a[0]);
                case "polynomial": return x.polynomial(a[0], a[1], a[2]);
                case "key": return x.key(a[0], a[1]);
                case "about": return x.about(a[0]);
                default: throw new AssertionError(name);
            }
        }

        @Override
        public String toString() {
            return name + Arrays.toString(with).replace('[', '(').replace(']', ')');
        }
    }

    /** A call that is refused, and by what. */
    record Refused(Call call, String by) {
    }

    /** A run of calls, each of which must be taken when it leads into a state. */
    static final class Calls {
        final String name;
        final List<Call> all = new ArrayList<>();

        Calls(String name) {
            this.name = name;
        }

        Calls add(String call, int... with) {
            all.add(new Call(call, with));
            return this;
        }

        Calls then(Calls more) {
            all.addAll(more.all);
            return this;
        }
    }

    /** A state, by the calls that lead to it and what the document says of it then. */
    static final class Scene {
        final Calls calls;
        final int constraints;
        boolean key = false;
        boolean proof = false;
        boolean open = false;

        Scene(Calls calls, int constraints) {
            this.calls = calls;
            this.constraints = constraints;
        }

        Scene key() {
            key = true;
            return this;
        }

        Scene proof() {
            proof = true;
            return this;
        }

        Scene open() {
            open = true;
            return this;
        }

        int size() {
            int n = 2;
            while (n < constraints) {
                n *= 2;
            }
            return n;
        }

        ProofMill made() {
            ProofMill x = new ProofMill();
            for (Call call : calls.all) {
                String answer = call.on(x);
                if (answer.startsWith("throws")) {
                    fault(calls.name + ": " + call + " " + answer);
                }
            }
            return x;
        }

        /** A scene that is not what its name says would test nothing. */
        void check() {
            ProofMill x = made();
            boolean good = x.about(0) == constraints && x.about(1) == size() && (x.about(3) == 1) == key
                    && (x.about(4) == 1) == proof && (x.open() != -1) == open;
            if (!good) {
                fault("the scene is not what it should be: " + calls.name);
            }
        }
    }

    public static void main(String[] args) {
        for (Scene scene : scenes()) {
            scene.check();
            List<Refused> refused = refusedIn(scene);
            eachThrows(scene, refused);
            for (Calls trail : trails()) {
                List<String> due = answers(scene, List.of(), trail);
                for (Refused one : refused) {
                    compare(scene, List.of(one), trail, due);
                }
                for (int from = 0; from < refused.size(); from += 100) {
                    compare(scene, refused.subList(from, Math.min(from + 100, refused.size())), trail, due);
                }
            }
        }
        asTheScenesShouldVerify();
        firstOfSeveralReasons();
        System.out.println(refusals + " refused calls, " + (wrong == 0 ? "none changes anything" : wrong + " faults"));
        if (wrong != 0) {
            System.exit(1);
        }
    }

    static void eachThrows(Scene scene, List<Refused> refused) {
        for (Refused one : refused) {
            refusals++;
            String answer = one.call.on(scene.made());
            if (!answer.equals(one.by)) {
                fault(scene.calls.name + ": " + one.call + " answered " + answer + ", due is " + one.by);
            }
        }
    }

    static List<String> answers(Scene scene, List<Refused> refused, Calls trail) {
        if (scene.calls.all.size() + refused.size() + trail.all.size() > MOST_CALLS) {
            fault("more than 512 calls: " + scene.calls.name + ", " + trail.name);
        }
        ProofMill x = scene.made();
        for (Refused one : refused) {
            one.call.on(x);
        }
        List<String> answers = new ArrayList<>();
        for (Call call : trail.all) {
            answers.add(call.on(x));
        }
        return answers;
    }

    static void compare(Scene scene, List<Refused> refused, Calls trail, List<String> due) {
        List<String> got = answers(scene, refused, trail);
        for (int i = 0; i < due.size(); i++) {
            if (!got.get(i).equals(due.get(i))) {
                String made = refused.size() == 1 ? refused.get(0).call.toString() : refused.size() + " refused calls";
                fault(scene.calls.name + ": after " + made + " " + trail.all.get(i) + " of the trail " + trail.name
                        + " answered " + got.get(i) + ", due is " + due.get(i));
                return;
            }
        }
    }

    // The states.

    /**
     * Variable i is i + 1. Constraint 0 has all variables in row 0 and fulfils itself, so that A of a proof shows
     * every value; constraint j has variable j times itself be j + 1 times itself.
     */
    static Calls circuit(String name, int count, int publics) {
        Calls c = new Calls(name);
        c.add("publics", publics);
        for (int i = 1; i < 16; i++) {
            c.add("value", i, i + 1);
        }
        for (int i = 0; i < 16; i++) {
            c.add("term", 0, i, 3 * i + 2);
        }
        c.add("constraint");
        for (int j = 1; j < count; j++) {
            c.add("term", 0, j, 1).add("term", 1, j, 1).add("term", 2, j, j + 1).add("constraint");
        }
        for (int i = 1; i <= publics; i++) {
            c.add("input", i, i + 1);
        }
        return c;
    }

    /** Row 0 alone: fulfilled when it becomes a constraint, so that the trails can go on to a proof. */
    static Calls draft() {
        return new Calls("draft").add("term", 0, 0, 40).add("term", 0, 7, P - 1).add("term", 0, 15, 41);
    }

    static Calls setup() {
        return new Calls("setup").add("setup", 1234567, 7654321, 5555555, 3333333, 2222222);
    }

    static Calls prove() {
        return new Calls("prove").add("prove", 987654321, 123456789);
    }

    static Calls keyed(String name) {
        return circuit(name, 3, 2).then(draft()).then(setup());
    }

    static Calls proven(String name) {
        return keyed(name).then(prove());
    }

    static Calls full(String name) {
        return circuit(name, 16, 6).then(draft()).then(setup()).then(prove());
    }

    static Calls wholeDraft() {
        Calls c = new Calls("a draft in all places");
        for (int row = 0; row < 3; row++) {
            for (int i = 0; i < 16; i++) {
                c.add("term", row, i, 100 * row + i + 1);
            }
        }
        return c;
    }

    static List<Scene> scenes() {
        return List.of(
                new Scene(new Calls("a new object"), 0),
                new Scene(wholeDraft(), 0),
                new Scene(new Calls("a key without constraints").then(setup()), 0).key(),
                new Scene(new Calls("a proof without constraints").then(setup()).then(prove()), 0).key().proof(),
                new Scene(circuit("no key", 5, 2).then(draft()), 5),
                new Scene(circuit("no key, open", 5, 2).then(draft()).add("value", 1, 7), 5).open(),
                new Scene(keyed("a key"), 3).key(),
                new Scene(keyed("a key, open").add("value", 1, 7), 3).key().open(),
                new Scene(proven("a proof"), 3).key().proof(),
                new Scene(proven("a proof, open since").add("value", 1, 7), 3).key().proof().open(),
                new Scene(proven("an altered proof").add("alter", 2, 5), 3).key().proof(),
                new Scene(proven("a proof, another key").add("setup", 9, 8, 7, 6, 5), 3).key().proof(),
                new Scene(proven("a proof, the key gone by publics").add("publics", 2), 3).proof(),
                new Scene(proven("a proof, the key gone by a constraint").add("constraint"), 4).proof(),
                new Scene(circuit("16 constraints without a key", 16, 6).then(draft()), 16),
                new Scene(full("16 constraints and a proof"), 16).key().proof(),
                new Scene(full("16 constraints and a proof, open since").add("value", 15, 7), 16).key().proof().open());
    }

    // What is refused.

    static List<Refused> refusedIn(Scene scene) {
        List<Refused> refused = new ArrayList<>();
        for (Call call : wrongArguments()) {
            refused.add(new Refused(call, ARGUMENT));
        }
        if (scene.constraints == 16) {
            refused.add(new Refused(new Call("constraint"), STATE));
        }
        if (!scene.key || scene.open) {
            for (int number : new int[] {0, 1, P - 1}) {
                String by = scene.key ? ARITHMETIC : STATE;
                refused.add(new Refused(new Call("prove", number, 0), by));
                refused.add(new Refused(new Call("prove", 5, number), by));
            }
        }
        if (!scene.proof) {
            for (int k = 0; k < 3; k++) {
                refused.add(new Refused(new Call("alter", k, 0), STATE));
                refused.add(new Refused(new Call("alter", k, P - 1), STATE));
            }
        }
        if (!scene.key || !scene.proof) {
            refused.add(new Refused(new Call("verify"), STATE));
        }
        for (int tau : roots(scene.size())) {
            refused.add(new Refused(new Call("setup", tau, 21, 22, 23, 24), ARITHMETIC));
        }
        return refused;
    }

    /** All numbers whose power of n is 1. */
    static int[] roots(int n) {
        int[] roots = new int[n];
        long w = power(3, (P - 1) / n);
        long root = 1;
        for (int j = 0; j < n; j++) {
            roots[j] = (int) root;
            root = root * w % P;
        }
        return roots;
    }

    static long power(long base, int exponent) {
        long result = 1;
        long square = base;
        for (int rest = exponent; rest > 0; rest /= 2) {
            result = rest % 2 == 1 ? result * square % P : result;
            square = square * square % P;
        }
        return result;
    }

    static final int[] NO_NUMBERS = {-1, P, P + 1, MIN, MAX};

    static List<Call> wrongArguments() {
        Calls c = new Calls("wrong arguments");
        wrongTerms(c);
        for (int n : new int[] {-1, 7, MIN, MAX}) {
            c.add("publics", n);
        }
        for (int variable : new int[] {0, -1, 16, 17, MIN, MAX}) {
            c.add("value", variable, 77);
        }
        c.add("value", 0, 0).add("value", 0, 1).add("value", 0, P).add("value", 16, P).add("value", -1, -1);
        for (int i : new int[] {0, -1, 7, 8, 15, MIN, MAX}) {
            c.add("input", i, 77);
        }
        c.add("input", 0, 0).add("input", 0, 1).add("input", 0, P).add("input", 7, P).add("input", -1, -1);
        for (int k : new int[] {-1, 3, MIN, MAX}) {
            c.add("alter", k, 77);
        }
        c.add("alter", 3, P).add("alter", -1, -1);
        for (int v : NO_NUMBERS) {
            c.add("value", 1, v).add("value", 15, v).add("input", 1, v).add("input", 6, v);
            c.add("alter", 0, v).add("alter", 1, v).add("alter", 2, v);
            c.add("prove", v, 0).add("prove", 0, v).add("prove", v, v);
        }
        wrongSetups(c);
        return c.all;
    }

    /** Among them those that a table without a look at each index would put into another row. */
    static void wrongTerms(Calls c) {
        for (int row : new int[] {-1, 3, MIN, MAX}) {
            c.add("term", row, 0, 77).add("term", row, 15, 77);
        }
        for (int variable : new int[] {-1, 16, MIN, MAX}) {
            c.add("term", 0, variable, 77).add("term", 1, variable, 77).add("term", 2, variable, 77);
        }
        c.add("term", -1, 16, 77).add("term", 3, -1, 77);
        for (int number : NO_NUMBERS) {
            c.add("term", 0, 0, number).add("term", 2, 15, number);
        }
        c.add("term", 3, 16, P).add("term", -1, -1, -1);
    }

    /** The second of each pair has a TAU whose T is 0 too: IllegalArgumentException comes first. */
    static void wrongSetups(Calls c) {
        for (int number : new int[] {0, -1, P, MIN, MAX}) {
            for (int place = 0; place < 5; place++) {
                int[] five = {31, 32, 33, 34, 35};
                five[place] = number;
                c.add("setup", five);
                if (place > 0) {
                    int[] vanishing = five.clone();
                    vanishing[0] = number == 0 ? 1 : P - 1;
                    c.add("setup", vanishing);
                }
            }
        }
    }

    // What is looked at behind a refused call.

    static List<Calls> trails() {
        return List.of(looks(), polynomials(0), polynomials(1), polynomials(2), straightOn(),
                new Calls("mended").add("value", 1, 2).add("value", 15, 16).then(straightOn()), oneMore());
    }

    static Calls looks() {
        Calls c = new Calls("looks");
        for (int what = -1; what <= 5; what++) {
            c.add("about", what);
        }
        for (int k = -1; k <= 3; k++) {
            c.add("proof", k);
        }
        for (int k = -1; k <= 16; k++) {
            c.add("quotient", k);
        }
        for (int what = 0; what <= 2; what++) {
            for (int i = -1; i <= 16; i++) {
                c.add("key", what, i);
            }
        }
        c.add("open").add("verify");
        for (int row = 0; row < 3; row++) {
            for (int i = 0; i < 16; i++) {
                c.add("term", row, i, 0);
            }
        }
        return c;
    }

    static Calls polynomials(int row) {
        Calls c = new Calls("polynomials of row " + row);
        for (int i = 0; i < 16; i++) {
            for (int k = 0; k < 16; k++) {
                c.add("polynomial", row, i, k);
            }
        }
        return c;
    }

    static Calls straightOn() {
        Calls c = new Calls("straight on");
        c.add("open").add("verify").add("prove", 5, 6).add("verify");
        elements(c);
        c.add("alter", 0, 3).add("verify");
        return c;
    }

    static Calls oneMore() {
        Calls c = new Calls("one constraint more");
        for (int i = 0; i < 16; i++) {
            c.add("term", 0, i, i + 1);
        }
        c.add("constraint").add("open").add("about", 0).add("about", 1).add("prove", 5, 6);
        c.add("setup", 101, 102, 103, 104, 105).add("verify").add("prove", 5, 6).add("verify");
        elements(c);
        for (int i = 0; i < 16; i++) {
            c.add("key", 1, i);
        }
        c.add("publics", 6).add("setup", 101, 102, 103, 104, 105).add("prove", 0, 0).add("verify");
        elements(c);
        return c;
    }

    static void elements(Calls c) {
        for (int k = 0; k < 3; k++) {
            c.add("proof", k);
        }
        for (int k = 0; k < 16; k++) {
            c.add("quotient", k);
        }
    }

    /** The inputs are seen by verify() alone: where it answers true, a changed input would make it false. */
    static void asTheScenesShouldVerify() {
        for (Scene scene : scenes()) {
            String name = scene.calls.name;
            if (scene.key && scene.proof) {
                boolean due = !name.equals("an altered proof") && !name.equals("a proof, another key");
                if (scene.made().verify() != due) {
                    fault(name + ": verify() is not " + due);
                }
            }
        }
    }

    // The order of the reasons, where a call has several.

    static void firstOfSeveralReasons() {
        order("prove: arguments before the key", circuit("", 3, 2), new Call("prove", P, 0), ARGUMENT);
        order("prove: arguments before the key", circuit("", 3, 2), new Call("prove", 0, -1), ARGUMENT);
        order("prove: arguments before the values", keyed("").add("value", 1, 7), new Call("prove", -1, 0), ARGUMENT);
        order("prove: arguments before the values", keyed("").add("value", 1, 7), new Call("prove", 0, P), ARGUMENT);
        order("prove: arguments before both", circuit("", 3, 2).add("value", 1, 7), new Call("prove", P, P), ARGUMENT);
        order("prove: the key before the values", circuit("", 3, 2).add("value", 1, 7), new Call("prove", 0, 0), STATE);
        order("prove: the values last", keyed("").add("value", 1, 7), new Call("prove", 0, 0), ARITHMETIC);
        order("prove: a key that has gone is none", keyed("").add("value", 1, 7).add("publics", 2), new Call("prove", 0, 0), STATE);
        order("alter: arguments before the proof", keyed(""), new Call("alter", 3, 0), ARGUMENT);
        order("alter: arguments before the proof", keyed(""), new Call("alter", -1, 0), ARGUMENT);
        order("alter: arguments before the proof", keyed(""), new Call("alter", 0, P), ARGUMENT);
        order("alter: arguments before the proof", keyed(""), new Call("alter", 2, -1), ARGUMENT);
        order("alter: the proof", keyed(""), new Call("alter", 2, 0), STATE);
        for (int place = 1; place < 5; place++) {
            int[] five = {1, 2, 3, 4, 5};
            five[place] = 0;
            order("setup: arguments before T", new Calls(""), new Call("setup", five), ARGUMENT);
            five[place] = P;
            order("setup: arguments before T", new Calls(""), new Call("setup", five), ARGUMENT);
        }
        order("setup: TAU 0 is an argument", new Calls(""), new Call("setup", 0, 2, 3, 4, 5), ARGUMENT);
        order("setup: T", new Calls(""), new Call("setup", 1, 2, 3, 4, 5), ARITHMETIC);
    }

    static void order(String words, Calls before, Call call, String due) {
        ProofMill x = new ProofMill();
        for (Call one : before.all) {
            one.on(x);
        }
        String got = call.on(x);
        if (!got.equals(due)) {
            fault(words + ": " + call + " answered " + got + ", due is " + due);
        }
    }
}
