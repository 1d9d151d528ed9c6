import java.io.IOException;
import java.lang.reflect.Constructor;
import java.lang.reflect.Field;
import java.lang.reflect.Method;
import java.lang.reflect.Modifier;
import java.nio.file.Files;
import java.nio.file.Path;
import java.util.ArrayList;
import java.util.Arrays;
import java.util.List;
import java.util.TreeSet;

/** The class shows the document's face and nothing else (LANGUAGE.md, rules 1 and 5). */
public final class ProofMillFace {
    static final String[] FACE = {
        "public ProofMill()",
        "public static final int ProofMill.NONE",
        "public int ProofMill.term(int,int,int) throws java.lang.IllegalArgumentException",
        "public int ProofMill.constraint() throws java.lang.IllegalStateException",
        "public boolean ProofMill.publics(int) throws java.lang.IllegalArgumentException",
        "public boolean ProofMill.value(int,int) throws java.lang.IllegalArgumentException",
        "public int ProofMill.open()",
        "public int ProofMill.setup(int,int,int,int,int) throws java.lang.IllegalArgumentException,java.lang.ArithmeticException",
        "public boolean ProofMill.prove(int,int) throws java.lang.IllegalArgumentException,java.lang.IllegalStateException,java.lang.ArithmeticException",
        "public boolean ProofMill.alter(int,int) throws java.lang.IllegalArgumentException,java.lang.IllegalStateException",
        "public boolean ProofMill.input(int,int) throws java.lang.IllegalArgumentException",
        "public boolean ProofMill.verify() throws java.lang.IllegalStateException",
        "public int ProofMill.proof(int)",
        "public int ProofMill.quotient(int)",
        "public int ProofMill.polynomial(int,int,int)",
        "public int ProofMill.key(int,int)",
        "public int ProofMill.about(int)",
    };

    static int wrong = 0;

    static void check(boolean good, String fault) {
        if (!good) {
            wrong++;
            System.out.println(fault);
        }
    }

    /** Reflection does not tell the names of parameters: so the document's own lines are looked for in the source. */
    static void asWritten() throws IOException {
        String source = Files.readString(Path.of("src/main/java/ProofMill.java")).replaceAll("\\s+", " ");
        String document = Files.readString(Path.of("../shared/DOC.md"));
        int start = document.indexOf("```java\n") + "```java\n".length();
        int found = 0;
        for (String line : document.substring(start, document.indexOf("```", start)).split("\n")) {
            String member = line.strip().replaceAll(";$", "").replaceAll("\\s+", " ");
            if (member.equals("}")) continue;
            check(source.contains(member), "not in the source as the document writes it: " + member);
            found++;
        }
        check(found == FACE.length + 1, "the document's face has " + found + " lines, with the class's own");
    }

    public static void main(String[] args) throws IOException {
        Class<?> c = ProofMill.class;
        check(Modifier.isPublic(c.getModifiers()) && Modifier.isFinal(c.getModifiers()), "the class is not public and final");
        List<String> shown = new ArrayList<>();
        List<String> names = new ArrayList<>();
        for (Constructor<?> k : c.getDeclaredConstructors()) {
            if (!Modifier.isPrivate(k.getModifiers())) shown.add(k.toString());
        }
        for (Field f : c.getDeclaredFields()) {
            if (!Modifier.isPrivate(f.getModifiers())) shown.add(f.toString());
            check(!Modifier.isStatic(f.getModifiers()) || Modifier.isFinal(f.getModifiers()), "a static field that is not final: " + f);
        }
        for (Method m : c.getDeclaredMethods()) {
            if (!Modifier.isPrivate(m.getModifiers())) {
                shown.add(m.toString());
                names.add(m.getName());
            }
        }
        for (Method m : c.getDeclaredMethods()) {
            check(!Modifier.isPrivate(m.getModifiers()) || !names.contains(m.getName()), "a private method with a public one's name: " + m);
        }
        for (Class<?> inside : c.getDeclaredClasses()) {
            int kind = inside.getModifiers();
            check(Modifier.isStatic(kind), "a class inside that is not static: " + inside);
            check(!Modifier.isPublic(kind) && !Modifier.isProtected(kind), "a class inside that is shown: " + inside);
        }
        asWritten();
        check(new TreeSet<>(shown).equals(new TreeSet<>(Arrays.asList(FACE))), "the face is " + new TreeSet<>(shown));
        System.out.println(wrong == 0 ? "the face is the document's" : wrong + " faults of the face");
        if (wrong != 0) {
            System.exit(1);
        }
    }
}
