import java.io.IOException;
import java.lang.reflect.Method;
import java.lang.reflect.Modifier;
import java.nio.file.DirectoryStream;
import java.nio.file.Files;
import java.nio.file.Path;
import java.util.Arrays;
import java.util.List;
import java.util.regex.Matcher;
import java.util.regex.Pattern;

/** README.md: its example answers what stands behind each call, and it names all calls and tests. */
public final class ReadmeTest {
    private static final Path README = Path.of("README.md");
    private static final Path TESTS = Path.of("src", "test", "java");
    private static final Pattern CALL = Pattern.compile("x\\.(\\w+)\\(([^)]*)\\); *// *(.*)");
    private static final Pattern ANSWER = Pattern.compile("(true|false|-?\\d+):.*");

    private ReadmeTest() {
    }

    public static void main(String[] args) throws IOException, ReflectiveOperationException {
        exampleAnswersAsWritten(Files.readAllLines(README));
        String text = Files.readString(README);
        everyCallIsNamed(text);
        everyTestIsNamed(text);
        Checks.end();
    }

    private static void exampleAnswersAsWritten(List<String> lines) throws ReflectiveOperationException {
        SmoothedGrams x = new SmoothedGrams();
        int calls = 0;
        for (String line : lines) {
            if (line.startsWith("x.")) {
                makeCall(x, line);
                calls++;
            }
        }
        Checks.due("the example has calls", calls > 0, true);
    }

    private static void makeCall(SmoothedGrams x, String line) throws ReflectiveOperationException {
        Matcher call = CALL.matcher(line);
        Checks.due(line + " is a call with what it does", call.matches(), true);
        if (!call.matches()) {
            return;
        }
        Object answer = call(x, call.group(1), numbers(call.group(2)));
        Matcher written = ANSWER.matcher(call.group(3));
        Checks.due(line + " has an answer behind it", written.matches(), answer != null);
        if (written.matches()) {
            Checks.due(line + " answers so, and not " + answer, written.group(1).equals(String.valueOf(answer)), true);
        }
    }

    private static Object[] numbers(String list) {
        if (list.isEmpty()) {
            return new Object[0];
        }
        String[] written = list.split(", *");
        Object[] numbers = new Object[written.length];
        for (int i = 0; i < written.length; i++) {
            numbers[i] = Integer.valueOf(written[i]);
        }
        return numbers;
    }

    private static Object call(SmoothedGrams x, String name, Object[] numbers) throws ReflectiveOperationException {
        Class<?>[] types = new Class<?>[numbers.length];
        Arrays.fill(types, int.class);
        return SmoothedGrams.class.getMethod(name, types).invoke(x, numbers);
    }

    private static void everyCallIsNamed(String text) {
        for (Method one : SmoothedGrams.class.getDeclaredMethods()) {
            if (Modifier.isPublic(one.getModifiers())) {
                Checks.due(one.getName() + " is in README.md", text.contains("`" + one.getName() + "("), true);
            }
        }
    }

    private static void everyTestIsNamed(String text) throws IOException {
        try (DirectoryStream<Path> files = Files.newDirectoryStream(TESTS, "*Test.java")) {
            for (Path file : files) {
                String name = file.getFileName().toString();
                Checks.due(name + " is in README.md", text.contains("`src/test/java/" + name + "`"), true);
            }
        }
    }
}
