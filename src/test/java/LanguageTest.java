import java.io.IOException;
import java.lang.reflect.Field;
import java.lang.reflect.Method;
import java.lang.reflect.Modifier;
import java.nio.file.Files;
import java.nio.file.Path;
import java.util.Set;
import java.util.TreeSet;
import java.util.regex.Matcher;
import java.util.regex.Pattern;

/** The rules of LANGUAGE.md that a program can see; the face is FaceTest's. It is run from the project's root. */
public final class LanguageTest {
    private static final String[] FORBIDDEN = {
        "\\bimport\\b", "\\bpackage\\b", "\\bthrows?\\b", "\\btry\\b", "\\bcatch\\b", "\\bsynchronized\\b",
        "\\bassert\\b", "->", "::", "\\bprotected\\b", "\\bSystem\\b", "\\bThread\\b", "Exact\\b", "\\bvar\\b"};

    public static void main(String[] args) throws IOException {
        privateNames();
        members(ProcessTurns.class);
        for (Class<?> inside : ProcessTurns.class.getDeclaredClasses()) {
            Due.is(inside + " is static", Modifier.isStatic(inside.getModifiers()) ? 1 : 0, 1);
            Due.is(inside + " is not public", Modifier.isPublic(inside.getModifiers()) ? 1 : 0, 0);
            members(inside);
        }
        Due.is("few classes", ProcessTurns.class.getDeclaredClasses().length <= 11 ? 1 : 0, 1);
        source();
        Due.end();
    }

    private static void privateNames() {
        Set<String> open = new TreeSet<>();
        for (Method m : ProcessTurns.class.getDeclaredMethods()) {
            if (Modifier.isPublic(m.getModifiers())) {
                open.add(m.getName());
            }
        }
        for (Method m : ProcessTurns.class.getDeclaredMethods()) {
            if (Modifier.isPrivate(m.getModifiers())) {
                Due.is(m + " bears a public name", open.contains(m.getName()) ? 1 : 0, 0);
            }
        }
    }

    private static void members(Class<?> c) {
        int fields = 0;
        for (Field f : c.getDeclaredFields()) {
            if (Modifier.isStatic(f.getModifiers())) {
                Due.is(f + " is final", Modifier.isFinal(f.getModifiers()) ? 1 : 0, 1);
            } else {
                fields++;
            }
        }
        Due.is(c + " has few fields", fields <= 20 ? 1 : 0, 1);
        for (Method m : c.getDeclaredMethods()) {
            Due.is(m + " takes few parameters", m.getParameterCount() <= 7 ? 1 : 0, 1);
        }
    }

    private static void source() throws IOException {
        String text = Files.readString(Path.of("src/main/java/ProcessTurns.java"));
        String code = text.replaceAll("(?s)/\\*.*?\\*/", " ").replaceAll("//.*", " ");
        for (String word : FORBIDDEN) {
            Matcher found = Pattern.compile(word).matcher(code);
            Due.is("the source holds " + word, found.find() ? 1 : 0, 0);
        }
    }
}
