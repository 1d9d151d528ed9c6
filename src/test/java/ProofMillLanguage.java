import java.io.IOException;
import java.lang.reflect.Field;
import java.lang.reflect.Modifier;
import java.nio.file.Files;
import java.nio.file.Path;
import java.util.ArrayList;
import java.util.HashMap;
import java.util.HashSet;
import java.util.List;
import java.util.Map;
import java.util.Set;
import java.util.regex.Matcher;
import java.util.regex.Pattern;

/**
 * The rules of LANGUAGE.md that can be read off the source or the compiled class. Where the class needs less than a
 * rule leaves (no library, no text, no object made outside constructors), the test asks for that less.
 */
public final class ProofMillLanguage {
    static final Path SOURCE = Path.of("src/main/java/ProofMill.java");
    static final Pattern TOKEN = Pattern.compile("[A-Za-z_]\\w*|\\d\\w*|->|::|<=|>=|==|!=|&&|\\|\\||\\+\\+|--|[-+*/%&|^]=|\\S");
    static final Set<String> THROWN = Set.of("IllegalStateException", "IllegalArgumentException", "ArithmeticException");
    static final Set<String> NEVER = Set.of(
            "->", "::", "\"", "'", "@", "import", "package", "try", "catch", "finally", "synchronized", "assert",
            "native", "volatile", "transient", "var", "double", "float", "this", "super");
    static final Set<String> HEADS = Set.of("if", "for", "while", "switch", "return", "new", "throw", "catch", "do", "else");

    static int wrong = 0;

    record Token(String text, int line) {}

    /** A method or constructor: its tokens are those between its braces. */
    static final class Body {
        String owner;
        String name;
        int parameters;
        int firstLine;
        int lastLine;
        boolean isPrivate;
        final List<Token> tokens = new ArrayList<>();

        boolean isConstructor() {
            return name.equals(owner);
        }
    }

    static void check(boolean good, String fault) {
        if (!good) {
            wrong++;
            System.out.println(fault);
        }
    }

    public static void main(String[] args) throws IOException {
        String source = Files.readString(SOURCE);
        List<Token> tokens = tokens(source);
        List<Body> bodies = bodies(tokens);
        List<Class<?>> classes = classes();
        check(source.chars().allMatch(c -> c < 256), "rule 3: a character above 255");
        words(tokens, classes);
        names(bodies);
        statics(classes);
        thrown(bodies);
        divisors(tokens);
        loops(tokens);
        sizes(bodies, classes);
        depth(bodies);
        made(bodies);
        check(bodies.size() > 40 && classes.size() > 1, "the test reads too little of the source");
        System.out.println(wrong == 0 ? "the rules hold" : wrong + " faults by LANGUAGE.md");
        if (wrong != 0) {
            System.exit(1);
        }
    }

    static List<Token> tokens(String source) {
        StringBuilder plain = new StringBuilder();
        Matcher comment = Pattern.compile("/\\*.*?\\*/|//[^\n]*", Pattern.DOTALL).matcher(source);
        // A comment leaves its line ends, so that the numbers of lines stay.
        while (comment.find()) {
            comment.appendReplacement(plain, "\n".repeat((int) comment.group().chars().filter(c -> c == '\n').count()));
        }
        comment.appendTail(plain);
        List<Token> tokens = new ArrayList<>();
        int line = 0;
        for (String text : plain.toString().split("\n", -1)) {
            line++;
            Matcher token = TOKEN.matcher(text);
            while (token.find()) tokens.add(new Token(token.group(), line));
        }
        return tokens;
    }

    static List<Body> bodies(List<Token> tokens) {
        List<Body> bodies = new ArrayList<>();
        List<String> open = new ArrayList<>();
        List<Token> head = new ArrayList<>();
        Body body = null;
        int bodyDepth = 0;
        for (Token token : tokens) {
            String text = token.text();
            if (text.equals("{")) {
                int kind = place(head, "class");
                if (kind >= 0) {
                    open.add(head.get(kind + 1).text());
                } else {
                    if (body == null && place(head, "(") > 0) {
                        body = body(head, open.get(open.size() - 1));
                        bodyDepth = open.size();
                        bodies.add(body);
                    }
                    open.add("");
                }
            } else if (text.equals("}")) {
                open.remove(open.size() - 1);
                if (body != null && open.size() == bodyDepth) {
                    body.lastLine = token.line();
                    body = null;
                }
            }
            if (body != null) body.tokens.add(token);
            if (text.equals("{") || text.equals("}") || text.equals(";")) head.clear();
            else head.add(token);
        }
        check(open.isEmpty(), "the braces do not match");
        return bodies;
    }

    static Body body(List<Token> head, String owner) {
        Body body = new Body();
        int opening = place(head, "(");
        int closing = place(head, ")");
        body.owner = owner;
        body.name = head.get(opening - 1).text();
        body.firstLine = head.get(0).line();
        body.isPrivate = place(head, "private") >= 0;
        for (int i = opening; i < closing; i++) {
            if (head.get(i).text().equals(",")) body.parameters++;
        }
        if (closing > opening + 1) body.parameters++;
        return body;
    }

    static int place(List<Token> tokens, String text) {
        for (int i = 0; i < tokens.size(); i++) {
            if (tokens.get(i).text().equals(text)) return i;
        }
        return -1;
    }

    static List<Class<?>> classes() {
        List<Class<?>> classes = new ArrayList<>();
        classes.add(ProofMill.class);
        for (int i = 0; i < classes.size(); i++) {
            classes.addAll(List.of(classes.get(i).getDeclaredClasses()));
        }
        return classes;
    }

    /** Rules 2, 3, 4, 6, 13: a name in small and capital letters that begins with a capital one is a class. */
    static void words(List<Token> tokens, List<Class<?>> classes) {
        Set<String> own = new HashSet<>(THROWN);
        for (Class<?> c : classes) own.add(c.getSimpleName());
        for (Token token : tokens) {
            String text = token.text();
            check(!NEVER.contains(text), "line " + token.line() + ": " + text);
            boolean isClass = text.matches("[A-Z]\\w*[a-z]\\w*");
            check(!isClass || own.contains(text), "rule 4: line " + token.line() + ": the class " + text);
        }
    }

    /** Rule 1, also for the classes inside. */
    static void names(List<Body> bodies) {
        Set<String> face = new HashSet<>();
        for (java.lang.reflect.Method m : ProofMill.class.getDeclaredMethods()) {
            if (Modifier.isPublic(m.getModifiers())) face.add(m.getName());
        }
        for (Body body : bodies) {
            check(!body.isPrivate || !face.contains(body.name), "rule 1: a private method " + body.name);
        }
    }

    static void statics(List<Class<?>> classes) {
        for (Class<?> c : classes) {
            for (Field f : c.getDeclaredFields()) {
                boolean constant = Modifier.isFinal(f.getModifiers()) && f.getType().isPrimitive();
                check(!Modifier.isStatic(f.getModifiers()) || constant, "rule 5: " + f);
            }
        }
    }

    static void thrown(List<Body> bodies) {
        for (Body body : bodies) {
            List<Token> tokens = body.tokens;
            for (int i = 0; i < tokens.size(); i++) {
                if (!tokens.get(i).text().equals("throw")) continue;
                boolean form = tokens.get(i + 1).text().equals("new") && THROWN.contains(tokens.get(i + 2).text());
                check(form && !body.isConstructor(), "rule 6: line " + tokens.get(i).line());
            }
        }
    }

    /** Rule 7: every divisor is a constant that is not 0. */
    static void divisors(List<Token> tokens) {
        Set<String> divide = Set.of("/", "%", "/=", "%=");
        for (int i = 0; i + 1 < tokens.size(); i++) {
            if (!divide.contains(tokens.get(i).text())) continue;
            String by = tokens.get(i + 1).text();
            check(constant(by) != 0, "rule 7: line " + tokens.get(i).line() + ": divides by " + by);
        }
    }

    /** 0 for what is no constant. */
    static long constant(String text) {
        if (text.matches("\\d+")) return Long.parseLong(text);
        try {
            Field f = ProofMill.class.getDeclaredField(text);
            f.setAccessible(true);
            return Modifier.isStatic(f.getModifiers()) ? f.getLong(null) : 0;
        } catch (ReflectiveOperationException e) {
            return 0;
        }
    }

    /** Rule 9: the line of a loop's head holds the counter's bound. */
    static void loops(List<Token> tokens) {
        for (int i = 0; i < tokens.size(); i++) {
            String text = tokens.get(i).text();
            check(!text.equals("do"), "rule 9: line " + tokens.get(i).line() + ": the bound is not in the head");
            if (!text.equals("for") && !text.equals("while")) continue;
            boolean bound = false;
            for (int j = i; j < tokens.size() && !tokens.get(j).text().equals("{"); j++) {
                bound |= Set.of("<", ">", "<=", ">=").contains(tokens.get(j).text());
            }
            check(bound, "rule 9: line " + tokens.get(i).line() + ": no bound");
        }
    }

    static void sizes(List<Body> bodies, List<Class<?>> classes) {
        check(classes.size() <= 12, "rule 11: " + classes.size() + " classes");
        for (Body body : bodies) {
            int lines = body.lastLine - body.firstLine + 1;
            check(lines <= 60, "rule 11: " + body.name + " has " + lines + " lines");
            check(body.parameters <= 7, "rule 11: " + body.name + " takes " + body.parameters);
        }
        for (Class<?> c : classes) {
            int fields = 0;
            for (Field f : c.getDeclaredFields()) {
                if (!Modifier.isStatic(f.getModifiers())) fields++;
            }
            check(fields <= 20, "rule 11: " + c + " has " + fields + " fields");
        }
    }

    /** Rules 8 and 11: methods of one name count as one, so that the depth is never taken for less than it is. */
    static void depth(List<Body> bodies) {
        Map<String, Set<String>> calls = new HashMap<>();
        for (Body body : bodies) calls.put(body.name, new HashSet<>());
        for (Body body : bodies) {
            for (int i = 0; i + 1 < body.tokens.size(); i++) {
                String name = body.tokens.get(i).text();
                boolean call = body.tokens.get(i + 1).text().equals("(") && !HEADS.contains(name);
                if (call && calls.containsKey(name)) calls.get(body.name).add(name);
            }
        }
        for (String name : calls.keySet()) {
            int depth = depth(name, calls, 1);
            check(depth <= 8, "rules 8, 11: " + name + " calls itself or goes deeper than eight");
        }
    }

    static int depth(String name, Map<String, Set<String>> calls, int level) {
        if (level > 8) return level;
        int deepest = level;
        for (String next : calls.get(name)) deepest = Math.max(deepest, depth(next, calls, level + 1));
        return deepest;
    }

    /** Rule 12, and the one room: no call makes an object but an exception. */
    static void made(List<Body> bodies) {
        for (Body body : bodies) {
            for (int i = 1; i < body.tokens.size(); i++) {
                if (!body.tokens.get(i).text().equals("new")) continue;
                boolean free = body.isConstructor() || body.tokens.get(i - 1).text().equals("throw");
                check(free, "rule 12: line " + body.tokens.get(i).line() + ": " + body.name + " makes an object");
            }
        }
    }
}
