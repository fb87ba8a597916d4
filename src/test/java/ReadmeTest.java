import java.io.IOException;
import java.lang.reflect.Field;
import java.lang.reflect.Method;
import java.lang.reflect.Modifier;
import java.nio.file.DirectoryStream;
import java.nio.file.Files;
import java.nio.file.Path;
import java.util.Arrays;
import java.util.Set;
import java.util.TreeSet;
import java.util.regex.Matcher;
import java.util.regex.Pattern;

/**
 * The calls that README.md shows answer what stands behind them; the whole face is shown, and every
 * test is named. Runs in the project's folder.
 */
public final class ReadmeTest {
    private static final Path README = Path.of("README.md");
    private static final Path TESTS = Path.of("src/test/java");

    private static final String NEW_OBJECT = "StartupProbes probes = new StartupProbes();";
    /** probes.name(numbers);   // answer, THE CONSTANT: words  (the constant and the words may be left out). */
    private static final Pattern CALL = Pattern.compile(
        "probes\\.(\\w+)\\(([-\\d, ]*)\\); +// (-?\\d+)(?:, ([A-Z]+))?(?:: .+)?");
    /** A call with numbers, wherever it stands. */
    private static final Pattern ANY_CALL = Pattern.compile("\\b\\w+\\(-?\\d[-\\d, ]*\\)");

    private final Due due = new Due("ReadmeTest");
    private final Set<String> shown = new TreeSet<>();
    private StartupProbes probes;
    private boolean isJava;

    public static void main(String[] args) throws IOException, ReflectiveOperationException {
        new ReadmeTest().check();
    }

    private void check() throws IOException, ReflectiveOperationException {
        for (String line : Files.readAllLines(README)) {
            read(line);
        }
        wholeFaceIsShown();
        everyTestIsNamed();
        due.end();
    }

    private void read(String line) throws ReflectiveOperationException {
        if (line.startsWith("```")) {
            isJava = line.equals("```java");
            probes = null;
        } else if (!isJava) {
            due.holds("a call is shown where its answer is checked: " + line, !ANY_CALL.matcher(line).find());
        } else if (line.equals(NEW_OBJECT)) {
            probes = new StartupProbes();
        } else if (!line.isEmpty()) {
            call(line);
        }
    }

    private void call(String line) throws ReflectiveOperationException {
        Matcher call = CALL.matcher(line);
        if (probes == null || !call.matches()) {
            due.holds("a new object, or a call of one with its answer: " + line, false);
            return;
        }
        int answer = Integer.parseInt(call.group(3));
        due.is(line, answerOf(call.group(1), numbers(call.group(2))), answer);
        if (call.group(4) != null) {
            due.is(line + " (the constant)", constant(call.group(4)), answer);
        }
    }

    private int answerOf(String name, Object[] numbers) throws ReflectiveOperationException {
        Class<?>[] types = new Class<?>[numbers.length];
        Arrays.fill(types, int.class);
        shown.add(name);
        return (int) StartupProbes.class.getMethod(name, types).invoke(probes, numbers);
    }

    private int constant(String name) throws ReflectiveOperationException {
        shown.add(name);
        return StartupProbes.class.getField(name).getInt(null);
    }

    private static Object[] numbers(String row) {
        return row.isEmpty() ? new Object[0] : Arrays.stream(row.split(", ")).map(Integer::valueOf).toArray();
    }

    private void wholeFaceIsShown() {
        for (Method m : StartupProbes.class.getDeclaredMethods()) {
            checkShown(m.getName(), m.getModifiers());
        }
        for (Field f : StartupProbes.class.getDeclaredFields()) {
            checkShown(f.getName(), f.getModifiers());
        }
    }

    private void checkShown(String name, int modifiers) {
        boolean isPublic = Modifier.isPublic(modifiers);
        due.holds(name + " is shown", !isPublic || shown.contains(name));
    }

    private void everyTestIsNamed() throws IOException {
        String text = Files.readString(README);
        due.holds("README.md says how to run the tests", text.contains("\n.ci/run\n"));
        try (DirectoryStream<Path> tests = Files.newDirectoryStream(TESTS, "*Test.java")) {
            for (Path test : tests) {
                String name = test.getFileName().toString().replace(".java", "");
                due.holds(name + " is named", text.contains("- `" + name + "`: "));
            }
        }
    }
}
