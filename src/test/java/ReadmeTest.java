import java.io.IOException;
import java.lang.reflect.Method;
import java.nio.file.DirectoryStream;
import java.nio.file.Files;
import java.nio.file.Path;
import java.util.Arrays;
import java.util.Set;
import java.util.TreeSet;
import java.util.regex.Matcher;
import java.util.regex.Pattern;

/** README.md holds: each call of its example answers what stands behind it; nothing is left out. */
public final class ReadmeTest {
    private static final Check CHECK = new Check("ReadmeTest");
    /** A line of the example: a call of numbers, and behind it what it answers. */
    private static final Pattern EXAMPLE =
            Pattern.compile("lock\\.(\\w+)\\(([-0-9, ]*)\\); +// (-?\\d+|true|false): .*");
    private static final Pattern CALL_ROW = Pattern.compile("(?m)^\\| `(\\w+)\\(([^)]*)\\)` \\|.*\\|$");
    private static final Pattern TEST_ROW = Pattern.compile("(?m)^\\| `(\\w+Test)` \\|");

    public static void main(String[] args) throws IOException, ReflectiveOperationException {
        String readme = Files.readString(Path.of("README.md"));
        theExampleAnswersSo(readme);
        allCallsAreNamed(readme);
        allTestsAreNamed(readme);
        CHECK.end();
    }

    private static void theExampleAnswersSo(String readme) throws ReflectiveOperationException {
        LockRuns lock = new LockRuns();
        String example = readme.split("```java\n")[1].split("```")[0];
        Set<String> shown = new TreeSet<>();
        for (String line : example.split("\n")) {
            if (line.equals("LockRuns lock = new LockRuns();")) {
                continue;
            }
            Matcher call = EXAMPLE.matcher(line);
            boolean read = call.matches();
            CHECK.due("the form of \"" + line + "\"", true, read);
            if (read) {
                shown.add(call.group(1));
                CHECK.due(line, call.group(3), ask(lock, call.group(1), call.group(2)));
            }
        }
        CHECK.due("the calls that the example shows", callNames(), shown);
    }

    private static String ask(LockRuns lock, String name, String list)
            throws ReflectiveOperationException {
        String[] texts = list.isEmpty() ? new String[0] : list.split(", ");
        Object[] numbers = new Object[texts.length];
        Class<?>[] types = new Class<?>[texts.length];
        for (int i = 0; i < texts.length; i++) {
            numbers[i] = Integer.valueOf(texts[i]);
            types[i] = int.class;
        }
        return LockRuns.class.getMethod(name, types).invoke(lock, numbers).toString();
    }

    /** Each call stands in the table with as many arguments and the exceptions that it has. */
    private static void allCallsAreNamed(String readme) throws ReflectiveOperationException {
        Set<String> named = new TreeSet<>();
        Matcher row = CALL_ROW.matcher(readme);
        while (row.find()) {
            named.add(row.group(1));
            String list = row.group(2);
            Class<?>[] types = new Class<?>[list.isEmpty() ? 0 : list.split(", ").length];
            Arrays.fill(types, int.class);
            StringBuilder due = new StringBuilder();
            for (Class<?> thrown : LockRuns.class.getMethod(row.group(1), types).getExceptionTypes()) {
                due.append(due.length() == 0 ? "`" : ", `").append(thrown.getSimpleName()).append('`');
            }
            String[] columns = row.group().split("\\|");
            CHECK.due("what " + row.group(1) + " throws", due.toString(), columns[3].trim());
        }
        CHECK.due("the calls of the table", callNames(), named);
    }

    private static Set<String> callNames() {
        Set<String> names = new TreeSet<>();
        for (Method method : LockRuns.class.getMethods()) {
            if (method.getDeclaringClass() == LockRuns.class) {
                names.add(method.getName());
            }
        }
        return names;
    }

    private static void allTestsAreNamed(String readme) throws IOException {
        Set<String> tests = new TreeSet<>();
        try (DirectoryStream<Path> files =
                Files.newDirectoryStream(Path.of("src/test/java"), "*Test.java")) {
            for (Path file : files) {
                tests.add(file.getFileName().toString().replace(".java", ""));
            }
        }
        Set<String> named = new TreeSet<>();
        Matcher row = TEST_ROW.matcher(readme);
        while (row.find()) {
            named.add(row.group(1));
        }
        CHECK.due("the tests of the tables", tests, named);
    }
}
