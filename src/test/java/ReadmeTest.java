import java.io.IOException;
import java.lang.reflect.Method;
import java.nio.file.Files;
import java.nio.file.Path;
import java.util.Set;
import java.util.TreeSet;
import java.util.regex.Matcher;
import java.util.regex.Pattern;
import java.util.stream.Collectors;
import java.util.stream.Stream;

/** That README.md tells what stands: its example answers as it says, and it names each test and each class. */
public final class ReadmeTest {
    private static final Path README = Path.of("README.md");
    private static final Path TESTS = Path.of("src/test/java");
    /** A call of the example and, behind //, its answer. */
    private static final Pattern CALL = Pattern.compile("rope\\.(\\w+)\\(([^)]*)\\);(?:\\s*// (-?\\w+)(?=:|$))?");

    public static void main(String[] args) throws Exception {
        String readme = Files.readString(README);
        example(readme);
        tests(readme);
        classes(readme);
        Check.due("it says how the tests are run", readme.contains("\nbash .ci/run\n"), true);
        Check.end();
    }

    private static void example(String readme) throws Exception {
        int from = readme.indexOf("```java\n");
        int to = readme.indexOf("```\n", from + 3);
        Check.due("an example in Java", from >= 0 && to > from, true);
        HairRope rope = new HairRope();
        int calls = 0;
        for (String line : readme.substring(Math.max(from, 0), Math.max(to, 0)).split("\n")) {
            Matcher m = CALL.matcher(line);
            if (m.find()) {
                calls++;
                Object got = call(rope, m.group(1), m.group(2));
                if (m.group(3) != null) {
                    Check.due("README: " + line + " answered " + got, m.group(3).equals(String.valueOf(got)), true);
                }
            }
        }
        Check.due("calls in the example", calls >= 5, true);
    }

    private static Object call(HairRope rope, String name, String numbers) throws Exception {
        String[] parts = numbers.isBlank() ? new String[0] : numbers.split(",\\s*");
        Object[] values = new Object[parts.length];
        for (int i = 0; i < parts.length; i++) {
            values[i] = (int) (long) Long.decode(parts[i]);
        }
        for (Method m : HairRope.class.getMethods()) {
            if (m.getName().equals(name) && m.getParameterCount() == values.length) {
                return m.invoke(rope, values);
            }
        }
        return "nothing: there is no such method";
    }

    private static void tests(String readme) throws IOException {
        Set<String> there;
        try (Stream<Path> files = Files.list(TESTS)) {
            there = files.map(f -> f.getFileName().toString().replace(".java", "")).filter(f -> f.endsWith("Test"))
                .collect(Collectors.toCollection(TreeSet::new));
        }
        Check.due("tests told: " + there, named(readme, "`(\\w+Test)`").equals(there), true);
    }

    private static void classes(String readme) {
        Set<String> told = named(readme.substring(readme.indexOf("## How it is built")), "`(\\w+)`");
        Set<String> there = new TreeSet<>(Set.of("HairRope"));
        for (Class<?> c : HairRope.class.getDeclaredClasses()) {
            there.add(c.getSimpleName());
        }
        Check.due("classes told: " + there, told.equals(there), true);
    }

    private static Set<String> named(String text, String pattern) {
        Set<String> names = new TreeSet<>();
        Matcher m = Pattern.compile(pattern).matcher(text);
        while (m.find()) {
            names.add(m.group(1));
        }
        return names;
    }
}
