import java.lang.reflect.Constructor;
import java.lang.reflect.Field;
import java.lang.reflect.Method;
import java.lang.reflect.Modifier;
import java.util.Set;
import java.util.TreeSet;

/** The public face: each line of it, and nothing else that can be seen from outside. */
public final class FaceTest {
    private static final String[] LINES = {
        "public ProcessTurns();", "public int add(int op, int k);", "public int start(int priority, int place, int a);",
        "public int run(int n);", "public void setClock(int t);", "public void reset();", "public int clock();",
        "public int running();", "public int state(int p);", "public long look(int p, int what);",
        "public int waiting(int priority, int i);", "public int channel(int k);", "public int messages();",
        "public long message(int n, int what);"};

    public static void main(String[] args) {
        sentences();
        Due.end();
    }

    static void sentences() {
        Due.holds("The public face", "public final class ProcessTurns {", FaceTest::classLine);
        for (String line : LINES) {
            Due.holds("The public face", line,
                () -> Due.is("the class has it", seenFromOutside().contains(signature(line)) ? 1 : 0, 1));
        }
        Due.holds("The public face", "}", FaceTest::nothingElse);
    }

    private static void classLine() {
        Due.is("modifiers", ProcessTurns.class.getModifiers(), Modifier.PUBLIC | Modifier.FINAL);
        Due.same("name", ProcessTurns.class.getName(), "ProcessTurns");
        Due.same("class above it", ProcessTurns.class.getSuperclass().getName(), "java.lang.Object");
        Due.is("interfaces", ProcessTurns.class.getInterfaces().length, 0);
    }

    private static void nothingElse() {
        Set<String> others = seenFromOutside();
        for (String line : LINES) {
            others.remove(signature(line));
        }
        Due.same("what else can be seen", others.toString(), "[]");
    }

    /** A line of the face as reflection writes it: without the names of the parameters. */
    private static String signature(String line) {
        return line.replaceAll("int \\w+([,)])", "int$1").replace(", ", ",").replace(";", "");
    }

    /** All that is not private, but for the classes inside. */
    private static Set<String> seenFromOutside() {
        Set<String> seen = new TreeSet<>();
        for (Method m : ProcessTurns.class.getDeclaredMethods()) {
            if (!Modifier.isPrivate(m.getModifiers())) {
                seen.add(m.toString().replace("ProcessTurns.", ""));
            }
        }
        for (Constructor<?> c : ProcessTurns.class.getDeclaredConstructors()) {
            if (!Modifier.isPrivate(c.getModifiers())) {
                seen.add(c.toString());
            }
        }
        for (Field f : ProcessTurns.class.getDeclaredFields()) {
            if (!Modifier.isPrivate(f.getModifiers())) {
                seen.add(f.toString());
            }
        }
        return seen;
    }
}
