import java.io.IOException;
import java.lang.reflect.Method;
import java.lang.reflect.Modifier;
import java.nio.file.Files;
import java.nio.file.Path;
import java.util.HashSet;
import java.util.List;
import java.util.Set;
import java.util.regex.Matcher;
import java.util.regex.Pattern;

/** README.md's examples answer what stands behind them, and it names every call and every test. */
public final class ReadmeTest {
    private static final Check CHECK = new Check();
    private static final Path README = Path.of("README.md");
    private static final Path TESTS = Path.of("src/test/java");
    private static final Pattern CALL = Pattern.compile("x\\.(\\w+)\\(([-\\d, ]*)\\);\\s+// .*: (-?\\d+)");
    private static final Pattern TYPED = Pattern.compile("for \\(char c : \"([^\"]*)\"\\.toCharArray\\(\\)\\) x\\.type\\(c\\);");
    private static final String NEW = "LoafWed x = new LoafWed();";

    public static void main(String[] args) throws IOException, ReflectiveOperationException {
        String page = Files.readString(README);
        examples(page);
        callsNamed(page);
        testsNamed(page);
        CHECK.end("ReadmeTest");
    }

    private static void examples(String page) throws ReflectiveOperationException {
        Matcher block = Pattern.compile("(?s)```java\n(.*?)```").matcher(page);
        int blocks = 0;
        while (block.find()) {
            blocks++;
            LoafWed x = new LoafWed();
            for (String line : block.group(1).lines().toList()) {
                x = line.equals(NEW) ? new LoafWed() : answered(x, line);
            }
        }
        CHECK.holds("examples were found", blocks > 0);
    }

    private static LoafWed answered(LoafWed x, String line) throws ReflectiveOperationException {
        Matcher typed = TYPED.matcher(line);
        Matcher call = CALL.matcher(line);
        if (typed.matches()) {
            typed.group(1).chars().forEach(x::type);
        } else if (call.matches()) {
            CHECK.due(line, answer(x, call.group(1), call.group(2)), Long.parseLong(call.group(3)));
        } else {
            CHECK.holds("a line that is no example: " + line, false);
        }
        return x;
    }

    private static long answer(LoafWed x, String name, String told) throws ReflectiveOperationException {
        String[] numbers = told.isBlank() ? new String[0] : told.split(", ");
        Class<?>[] types = new Class<?>[numbers.length];
        Object[] values = new Object[numbers.length];
        for (int i = 0; i < numbers.length; i++) {
            types[i] = int.class;
            values[i] = Integer.valueOf(numbers[i]);
        }
        return ((Number) LoafWed.class.getMethod(name, types).invoke(x, values)).longValue();
    }

    private static void callsNamed(String page) {
        Set<String> names = new HashSet<>();
        for (Method m : LoafWed.class.getDeclaredMethods()) {
            if (Modifier.isPublic(m.getModifiers())) {
                names.add(m.getName());
            }
        }
        String table = String.join("\n", page.lines().filter(line -> line.startsWith("|")).toList());
        for (String name : names) {
            CHECK.holds("README.md's table has " + name, table.contains("`" + name + "`"));
        }
    }

    private static void testsNamed(String page) throws IOException {
        try (var files = Files.list(TESTS)) {
            List<String> tests = files.map(f -> f.getFileName().toString()).filter(f -> f.endsWith("Test.java")).toList();
            for (String test : tests) {
                CHECK.holds("README.md names " + test, page.contains("`" + test.replace(".java", "") + "`"));
            }
            CHECK.holds("tests were found", !tests.isEmpty());
        }
    }
}
