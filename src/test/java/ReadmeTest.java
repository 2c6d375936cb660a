import java.io.IOException;
import java.lang.reflect.Method;
import java.lang.reflect.Modifier;
import java.nio.file.Files;
import java.nio.file.Path;
import java.util.List;
import java.util.regex.Matcher;
import java.util.regex.Pattern;

/** README.md shows how the class is used: its example answers as it says, and no call or test is left out. */
public final class ReadmeTest {
    private static final Path README = Path.of("README.md");
    private static final Path TESTS = Path.of("src/test/java");
    private static final Pattern CALL = Pattern.compile("x\\.(\\w+)\\((.*)\\); +// (-?\\d+|[A-Z]+)(:.*)?");
    private static final String MADE = "SnowOwed x = new SnowOwed();";

    public static void main(String[] args) throws IOException, ReflectiveOperationException {
        List<String> lines = Files.readAllLines(README);
        example(lines);
        String all = String.join("\n", lines);
        for (Method m : SnowOwed.class.getDeclaredMethods()) {
            boolean shown = !Modifier.isPublic(m.getModifiers()) || all.contains("`" + m.getName() + "`");
            Due.isTrue("README names " + m.getName(), shown);
        }
        try (var files = Files.list(TESTS)) {
            for (Path file : files.filter(f -> f.toString().endsWith("Test.java")).toList()) {
                String name = file.getFileName().toString().replace(".java", "");
                Due.isTrue("README names " + name, all.contains("| `" + name + "` |"));
            }
        }
        Due.isTrue("README says how the tests are run", lines.contains("    .ci/run"));
        Due.end();
    }

    private static void example(List<String> lines) throws ReflectiveOperationException {
        SnowOwed x = null;
        boolean java = false;
        int calls = 0;
        for (String line : lines) {
            if (line.startsWith("```")) {
                java = line.equals("```java");
            } else if (java && line.equals(MADE)) {
                x = new SnowOwed();
            } else if (java) {
                Matcher call = CALL.matcher(line);
                boolean read = call.matches() && x != null;
                Due.isTrue("README's line '" + line + "' is a call with its answer", read);
                if (read) {
                    calls++;
                    Due.due("README: " + line, answer(x, call.group(1), call.group(2)), number(call.group(3)));
                }
            }
        }
        Due.isTrue("README has an example", calls > 0);
    }

    private static int answer(SnowOwed x, String name, String given) throws ReflectiveOperationException {
        String[] words = given.isEmpty() ? new String[0] : given.split(", ");
        Class<?>[] ints = new Class<?>[words.length];
        Object[] numbers = new Object[words.length];
        for (int i = 0; i < words.length; i++) {
            ints[i] = int.class;
            numbers[i] = number(words[i].replace("SnowOwed.", ""));
        }
        return (Integer) SnowOwed.class.getMethod(name, ints).invoke(x, numbers);
    }

    /** A number, or a constant of the class by its name. */
    private static int number(String word) throws ReflectiveOperationException {
        return word.matches("[A-Z]+") ? SnowOwed.class.getField(word).getInt(null) : Long.decode(word).intValue();
    }
}
