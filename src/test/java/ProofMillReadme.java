import java.io.IOException;
import java.lang.reflect.InvocationTargetException;
import java.lang.reflect.Method;
import java.nio.file.Files;
import java.nio.file.Path;
import java.util.ArrayList;
import java.util.List;
import java.util.Set;
import java.util.TreeSet;
import java.util.regex.Matcher;
import java.util.regex.Pattern;
import java.util.stream.Stream;

/**
 * README.md is true: each call of its examples, read from README.md itself and made in its order, answers what stands
 * behind it, and its way to run the tests is the one that .ci/run goes. Started, as .ci/run does, where README.md is.
 */
public final class ProofMillReadme {
    static final Path README = Path.of("README.md");
    static final Path CI = Path.of(".ci/run");
    static final Path TESTS = Path.of("src/test/java");
    static final String BEGIN = "ProofMill mill = new ProofMill();";
    static final Pattern CALL = Pattern.compile(
            "mill\\.(\\w+)\\(([^)]*)\\);\\s+// (-?\\d+|true|false|throws \\w+)(: .+)?");

    static int wrong = 0;
    static ProofMill mill = null;
    static final Set<String> called = new TreeSet<>();

    static void check(boolean good, String fault) {
        if (!good) {
            wrong++;
            System.out.println(fault);
        }
    }

    public static void main(String[] args) throws IOException {
        List<String> lines = Files.readAllLines(README);
        examples(lines);
        check(called.equals(methodsOfTheFace()), "README.md's examples use " + called + ", the face has " + methodsOfTheFace());
        wayToRunAll(lines);
        wayToRunOne(lines);
        testsNamed(lines);
        System.out.println(wrong == 0 ? "README.md is true" : wrong + " faults of README.md");
        if (wrong != 0) {
            System.exit(1);
        }
    }

    static void examples(List<String> lines) {
        boolean inside = false;
        for (String line : lines) {
            if (line.startsWith("```")) {
                inside = line.equals("```java");
            } else if (inside && line.equals(BEGIN)) {
                mill = new ProofMill();
            } else if (inside && !line.isBlank()) {
                exampleCall(line);
            }
        }
        check(mill != null, "README.md has no example that begins with " + BEGIN);
    }

    static void exampleCall(String line) {
        Matcher call = CALL.matcher(line);
        if (mill == null || !call.matches()) {
            check(false, "README.md: no call of a mill with its answer behind it: " + line);
            return;
        }
        String got = answer(call.group(1), call.group(2));
        check(got.equals(call.group(3)), "README.md: " + line + " but the answer is " + got);
    }

    static String answer(String name, String list) {
        String[] words = list.isBlank() ? new String[0] : list.split(", ");
        Object[] arguments = new Object[words.length];
        Class<?>[] types = new Class<?>[words.length];
        for (int i = 0; i < words.length; i++) {
            arguments[i] = Integer.valueOf(words[i]);
            types[i] = int.class;
        }
        called.add(name);
        try {
            return String.valueOf(ProofMill.class.getMethod(name, types).invoke(mill, arguments));
        } catch (InvocationTargetException e) {
            return "throws " + e.getCause().getClass().getSimpleName();
        } catch (ReflectiveOperationException e) {
            return "no such method";
        }
    }

    static Set<String> methodsOfTheFace() {
        Set<String> names = new TreeSet<>();
        for (Method m : ProofMill.class.getDeclaredMethods()) {
            if (java.lang.reflect.Modifier.isPublic(m.getModifiers())) names.add(m.getName());
        }
        return names;
    }

    /** The lines of README.md that are commands: those set in by four spaces. */
    static List<String> commands(List<String> lines) {
        List<String> found = new ArrayList<>();
        for (String line : lines) {
            if (line.startsWith("    ")) found.add(line.strip());
        }
        return found;
    }

    static void wayToRunAll(List<String> lines) {
        List<String> commands = commands(lines);
        check(!commands.isEmpty() && commands.get(0).equals(CI.toString()), "README.md's first command is not " + CI + ": " + commands);
        check(Files.isExecutable(CI), CI + " cannot be executed");
    }

    /** The commands for one test are those of .ci/run, with that test's names set in. */
    static void wayToRunOne(List<String> lines) throws IOException {
        List<String> due = new ArrayList<>();
        for (String line : Files.readAllLines(CI)) {
            String command = line.strip();
            if (command.startsWith("if javac ") && command.endsWith("; then")) {
                for (String part : command.substring(3, command.length() - 6).split(" && ")) due.add(forOneTest(part));
            }
        }
        List<String> commands = commands(lines);
        List<String> given = commands.subList(Math.min(1, commands.size()), commands.size());
        check(due.size() == 2, "the commands for a test are not found in " + CI);
        check(given.equals(due), "README.md runs one test by " + given + ", " + CI + " by " + due);
    }

    static String forOneTest(String command) {
        String name = "ProofMillEdges";
        return command
                .replace("\"$classes\"", "build/java/" + name)
                .replace("\"$main\"", "src/main/java/ProofMill.java")
                .replace("\"$1\"", TESTS + "/" + name + ".java")
                .replace("\"$name\"", name);
    }

    static void testsNamed(List<String> lines) throws IOException {
        Set<String> named = new TreeSet<>();
        for (String line : lines) {
            Matcher item = Pattern.compile("- `(ProofMill\\w+)`: .+").matcher(line);
            if (item.matches()) named.add(item.group(1));
        }
        Set<String> there = new TreeSet<>();
        try (Stream<Path> files = Files.list(TESTS)) {
            files.forEach(file -> there.add(file.getFileName().toString().replace(".java", "")));
        }
        check(named.equals(there), "README.md names the tests " + named + ", there are " + there);
    }
}
