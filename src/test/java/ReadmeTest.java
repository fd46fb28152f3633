import java.io.File;
import java.io.IOException;
import java.lang.reflect.Method;
import java.nio.file.Files;
import java.nio.file.Path;
import java.util.HashMap;
import java.util.List;
import java.util.Map;
import java.util.regex.Matcher;
import java.util.regex.Pattern;

/** README.md is true: its examples answer what stands behind them, and it names every call and test. */
public final class ReadmeTest {
    private static final Pattern NEW = Pattern.compile("PageVault vault = new PageVault\\((\\d+)\\);");
    private static final Pattern CALL = Pattern.compile("(?:int (\\w+) = )?vault\\.(\\w+)\\(([^)]*)\\);\\s+// (-?\\w+).*");

    private static final Map<String, Integer> variables = new HashMap<>();
    private static PageVault vault;
    private static int calls;
    private static int wrong;

    public static void main(String[] args) throws IOException, ReflectiveOperationException {
        List<String> lines = Files.readAllLines(Path.of("README.md"));
        runExamples(lines);
        check(calls > 0, "no example has a call");
        String all = String.join("\n", lines);
        for (Method method : PageVault.class.getMethods()) {
            if (method.getDeclaringClass() == PageVault.class) {
                check(all.contains("\n| `" + method.getName() + "("), "no row for " + method.getName());
            }
        }
        String[] tests = new File("src/test/java").list();
        check(tests != null && tests.length > 0, "no tests of the project");
        for (String test : tests == null ? new String[0] : tests) {
            check(all.contains("`src/test/java/" + test + "`"), "no line for " + test);
        }
        System.out.println(wrong == 0 ? "README.md is true" : wrong + " things are not as README.md says");
        if (wrong != 0) {
            System.exit(1);
        }
    }

    private static void check(boolean holds, String what) {
        if (!holds) {
            wrong++;
            System.out.println("README.md: " + what);
        }
    }

    private static void runExamples(List<String> lines) throws ReflectiveOperationException {
        boolean inside = false;
        for (String line : lines) {
            if (line.startsWith("```")) {
                inside = line.equals("```java");
            } else if (inside) {
                runLine(line);
            }
        }
    }

    private static void runLine(String line) throws ReflectiveOperationException {
        Matcher made = NEW.matcher(line);
        Matcher call = CALL.matcher(line);
        if (made.matches()) {
            vault = new PageVault(Integer.parseInt(made.group(1)));
            variables.clear();
        } else if (call.matches()) {
            runCall(line, call);
        } else {
            check(false, "this line of an example is no call with its answer: " + line);
        }
    }

    private static void runCall(String line, Matcher call) throws ReflectiveOperationException {
        String[] words = call.group(3).isEmpty() ? new String[0] : call.group(3).split(", ");
        Object[] values = new Object[words.length];
        Class<?>[] types = new Class<?>[words.length];
        for (int k = 0; k < words.length; k++) {
            types[k] = int.class;
            values[k] = variables.containsKey(words[k]) ? variables.get(words[k]) : Integer.valueOf(words[k]);
        }
        Object answer = PageVault.class.getMethod(call.group(2), types).invoke(vault, values);
        if (call.group(1) != null) {
            variables.put(call.group(1), (Integer) answer);
        }
        calls++;
        check(answer.toString().equals(call.group(4)), "answered " + answer + ": " + line);
    }
}
