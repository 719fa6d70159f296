import java.io.IOException;
import java.lang.reflect.Method;
import java.lang.reflect.Modifier;
import java.nio.file.Files;
import java.nio.file.Path;
import java.util.List;
import java.util.regex.Matcher;
import java.util.regex.Pattern;
import java.util.stream.Stream;

/** README.md says how to use the class and how to run its tests, and what it says holds. Run from the root. */
public final class ReadmeTest {
    private static final Pattern CALL = Pattern.compile("x\\.(\\w+)\\(([-\\d, ]*)\\);\\s+// (-?\\d+): .+");

    public static void main(String[] args) throws IOException, ReflectiveOperationException {
        String readme = Files.readString(Path.of("README.md"));
        example(readme);
        for (Method m : ProcessTurns.class.getDeclaredMethods()) {
            if (Modifier.isPublic(m.getModifiers())) {
                tells(readme, "| `" + m.getName() + "(");
            }
        }
        tells(readme, "    .ci/run\n");
        for (String test : tests()) {
            tells(readme, "| " + test + " |");
        }
        Due.end();
    }

    private static void tells(String readme, String words) {
        Due.is("README.md tells '" + words.strip() + "'", readme.contains(words) ? 1 : 0, 1);
    }

    private static List<String> tests() throws IOException {
        try (Stream<Path> files = Files.list(Path.of("src/test/java"))) {
            return files.map(file -> file.getFileName().toString()).filter(name -> name.endsWith("Test.java"))
                .map(name -> name.replace(".java", "")).sorted().toList();
        }
    }

    /** Does the calls of the example; the comment behind each begins with its answer. */
    private static void example(String readme) throws ReflectiveOperationException {
        String[] lines = readme.replaceAll("(?s).*```java\n(.*?)```.*", "$1").split("\n");
        Due.same("the first line", lines[0], "ProcessTurns x = new ProcessTurns();");
        ProcessTurns x = new ProcessTurns();
        for (int i = 1; i < lines.length; i++) {
            Matcher call = CALL.matcher(lines[i]);
            Due.is("a call with its answer: " + lines[i], call.matches() ? 1 : 0, 1);
            if (call.matches()) {
                Due.is(lines[i], answer(x, call.group(1), call.group(2)), Long.parseLong(call.group(3)));
            }
        }
        Due.is("the example has calls", lines.length > 1 ? 1 : 0, 1);
    }

    private static long answer(ProcessTurns x, String name, String arguments) throws ReflectiveOperationException {
        Object[] values = Stream.of(arguments.split(", ")).filter(text -> !text.isEmpty()).map(Integer::valueOf)
            .toArray();
        Class<?>[] types = Stream.of(values).map(value -> int.class).toArray(Class<?>[]::new);
        return ((Number) ProcessTurns.class.getMethod(name, types).invoke(x, values)).longValue();
    }
}
