import java.lang.reflect.Constructor;
import java.lang.reflect.Field;
import java.lang.reflect.Member;
import java.lang.reflect.Method;
import java.lang.reflect.Modifier;
import java.nio.file.Files;
import java.nio.file.Path;
import java.util.ArrayList;
import java.util.List;
import java.util.TreeSet;

/** The public face as the document writes it, and what can be seen of the rules for the program's Java. */
public final class FaceTest {
    private static final String[] FACE = {
        "public boolean CheapPlanner.text(int,int,int,int,int)",
        "public char CheapPlanner.letter(int) throws java.lang.IndexOutOfBoundsException",
        "public boolean CheapPlanner.put(int)",
        "public int CheapPlanner.check() throws java.lang.IllegalStateException",
        "public int CheapPlanner.domain() throws java.lang.IllegalArgumentException",
        "public int CheapPlanner.estimate(int) throws java.lang.IllegalStateException,java.lang.IllegalArgumentException",
        "public int CheapPlanner.fault()",
        "public int CheapPlanner.ground(int,int) throws java.util.NoSuchElementException,java.lang.IllegalArgumentException",
        "public int CheapPlanner.plan(int) throws java.lang.IllegalStateException,java.lang.IllegalArgumentException,"
            + "java.lang.UnsupportedOperationException",
        "public int CheapPlanner.problem() throws java.lang.IllegalStateException,java.lang.IllegalArgumentException,"
            + "java.lang.UnsupportedOperationException",
        "public int CheapPlanner.step(int) throws java.util.NoSuchElementException",
        "public int CheapPlanner.steps() throws java.util.NoSuchElementException",
        "public CheapPlanner()",
    };
    private static final String[] RULED_OUT = {
        "->", "::", "try ", "catch", "finally", "synchronized", "assert ", "System.out", "Random", "currentTime", "nanoTime",
        "getMessage", "Thread", "java.io", "java.nio", "Exact(", "@",
    };

    public static void main(String[] args) throws Exception {
        face();
        classes();
        source();
        Desk.end("FaceTest");
    }

    private static void face() {
        Class<?> planner = CheapPlanner.class;
        List<Member> all = new ArrayList<>(List.of(planner.getDeclaredMethods()));
        all.addAll(List.of(planner.getDeclaredConstructors()));
        TreeSet<String> seen = new TreeSet<>();
        for (Member member : all) {
            if (!Modifier.isPrivate(member.getModifiers()) && !member.isSynthetic()) {
                seen.add(member instanceof Method m ? m.toGenericString() : ((Constructor<?>) member).toGenericString());
            }
        }
        Desk.due("the face", new TreeSet<>(List.of(FACE)), () -> seen);
        Desk.due("public and final", true,
            () -> Modifier.isPublic(planner.getModifiers()) && Modifier.isFinal(planner.getModifiers()));
        for (Field field : planner.getDeclaredFields()) {
            Desk.due(field + " is private", true, () -> Modifier.isPrivate(field.getModifiers()));
        }
    }

    private static void classes() {
        TreeSet<String> names = new TreeSet<>();
        for (Method method : CheapPlanner.class.getDeclaredMethods()) {
            if (Modifier.isPublic(method.getModifiers())) {
                names.add(method.getName());
            }
        }
        Class<?>[] inside = CheapPlanner.class.getDeclaredClasses();
        Desk.due("some twelve classes", true, () -> inside.length <= 12);
        for (Class<?> one : inside) {
            Desk.due(one + " is static", true, () -> Modifier.isStatic(one.getModifiers()));
            for (Field field : one.getDeclaredFields()) {
                int m = field.getModifiers();
                Desk.due(field + " is no static state", true, () -> !Modifier.isStatic(m) || Modifier.isFinal(m));
            }
            for (Method method : one.getDeclaredMethods()) {
                Desk.due(method + " bears no public name", false, () -> names.contains(method.getName()));
                Desk.due(method + " has few parameters", true, () -> method.getParameterCount() <= 7);
            }
        }
    }

    private static void source() throws Exception {
        String source = System.getProperty("source");
        Desk.due("the property source is set", true, () -> source != null);
        if (source == null) {
            return;
        }
        List<String> lines = Files.readAllLines(Path.of(source));
        for (String line : lines) {
            String code = line.strip();
            if (code.startsWith("*") || code.startsWith("/*") || code.startsWith("//")) {
                continue;
            }
            for (String word : RULED_OUT) {
                Desk.due(word + " in " + code, false, () -> code.contains(word));
            }
            if (code.startsWith("import ")) {
                Desk.due(code, true, () -> code.matches("import java\\.util\\.(Arrays|NoSuchElementException|ArrayList|List);"));
            }
        }
    }
}
