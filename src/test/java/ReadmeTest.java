import java.io.File;
import java.io.IOException;
import java.lang.reflect.Method;
import java.lang.reflect.Modifier;
import java.nio.file.Files;
import java.nio.file.Path;
import java.util.ArrayList;
import java.util.List;
import java.util.regex.Matcher;
import java.util.regex.Pattern;

/** What README.md shows holds: the answers in its runs, its table of calls, its table of tests. */
public final class ReadmeTest {
    private static final Due DUE = new Due();
    private static final String BEGIN = "StoragePath path = new StoragePath();";
    private static final Pattern CALL = Pattern.compile("path\\.(\\w+)\\(([^)]*)\\);\\s*// (-?\\d+)(:.*)?");

    public static void main(String[] args) throws IOException, ReflectiveOperationException {
        List<String> lines = Files.readAllLines(Path.of("README.md"));
        List<Method> calls = calls();
        runs(lines, calls);
        callsAreNamed(lines, calls);
        testsAreNamed(lines);
        DUE.end();
    }

    private static List<Method> calls() {
        List<Method> calls = new ArrayList<>();
        for (Method m : StoragePath.class.getDeclaredMethods()) {
            if (Modifier.isPublic(m.getModifiers())) {
                calls.add(m);
            }
        }
        return calls;
    }

    /** Every line of a run is its beginning or a call with its answer: none is left out by a slip of writing. */
    private static void runs(List<String> lines, List<Method> calls) throws ReflectiveOperationException {
        StoragePath path = null;
        boolean inRun = false;
        int asked = 0;
        for (String line : lines) {
            if (line.startsWith("```")) {
                inRun = line.equals("```java");
            } else if (inRun && line.equals(BEGIN)) {
                path = new StoragePath();
            } else if (inRun) {
                Matcher shown = CALL.matcher(line);
                boolean read = shown.matches();
                DUE.holds("a call with its answer: " + line, read);
                if (read) {
                    DUE.is(line, answer(path, calls, shown.group(1), shown.group(2)), Integer.parseInt(shown.group(3)));
                    asked++;
                }
            }
        }
        DUE.holds("there are runs", asked > 20);
    }

    private static int answer(StoragePath path, List<Method> calls, String name, String arguments)
            throws ReflectiveOperationException {
        String[] words = arguments.isEmpty() ? new String[0] : arguments.split(", ");
        Object[] values = new Object[words.length];
        for (int i = 0; i < words.length; i++) {
            boolean flag = words[i].equals("true") || words[i].equals("false");
            values[i] = flag ? (Object) Boolean.valueOf(words[i]) : (Object) Integer.valueOf(words[i]);
        }
        for (Method m : calls) {
            if (m.getName().equals(name)) {
                return (Integer) m.invoke(path, values);
            }
        }
        throw new NoSuchMethodException(name);
    }

    private static void callsAreNamed(List<String> lines, List<Method> calls) {
        DUE.is("calls", calls.size(), 22);
        for (Method m : calls) {
            int parameters = m.getParameterCount();
            String head = parameters == 0 ? "" : "\\w+" + ", \\w+".repeat(parameters - 1);
            Pattern row = Pattern.compile("\\| `" + m.getName() + "\\(" + head + "\\)` \\|.*");
            long rows = lines.stream().filter(line -> row.matcher(line).matches()).count();
            DUE.is("rows of " + m.getName(), rows, 1);
        }
    }

    private static void testsAreNamed(List<String> lines) {
        String[] files = new File("src/test/java").list((directory, name) -> name.endsWith("Test.java"));
        DUE.holds("there are tests", files != null && files.length > 0);
        for (String file : files == null ? new String[0] : files) {
            String row = "| `" + file.replace(".java", "") + "` |";
            DUE.is("rows of " + file, lines.stream().filter(line -> line.startsWith(row)).count(), 1);
        }
    }
}
