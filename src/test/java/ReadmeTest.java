import java.io.IOException;
import java.lang.reflect.Method;
import java.lang.reflect.Modifier;
import java.nio.file.Files;
import java.nio.file.Path;
import java.util.ArrayList;
import java.util.List;
import java.util.Map;
import java.util.TreeMap;
import java.util.regex.Matcher;
import java.util.regex.Pattern;

/** The examples of README.md, each call with the answer that stands behind it. Runs in the project's folder. */
public final class ReadmeTest {
    private static final Pattern MADE = Pattern.compile("SquareSums (\\w+) = new SquareSums\\(\\);.*");
    private static final Pattern NAMED = Pattern.compile("int (\\w+) = (\\w+)\\.form\\(\\);.*");
    private static final Pattern CALLED = Pattern.compile("(\\w+)\\.(\\w+)\\((.*?)\\);\\s*// (-?\\d+)(:.*)?");

    private static int wrong = 0;

    private static void tell(String what) {
        wrong++;
        System.out.println(what);
    }

    /** What stands between lines that begin with three back quotes and 'java'. */
    private static List<List<String>> examples() throws IOException {
        List<List<String>> all = new ArrayList<>();
        List<String> example = null;
        for (String line : Files.readAllLines(Path.of("README.md"))) {
            if (line.equals("```java")) {
                example = new ArrayList<>();
                all.add(example);
            } else if (line.startsWith("```")) {
                example = null;
            } else if (example != null) {
                example.add(line);
            }
        }
        return all;
    }

    private static long number(String text, Map<String, Long> names) {
        return names.containsKey(text) ? names.get(text) : Long.parseLong(text);
    }

    private static long answer(SquareSums sums, String name, String arguments, Map<String, Long> names)
            throws ReflectiveOperationException {
        String[] texts = arguments.isEmpty() ? new String[0] : arguments.split(", ");
        for (Method method : SquareSums.class.getMethods()) {
            if (method.getName().equals(name) && method.getParameterCount() == texts.length) {
                Object[] values = new Object[texts.length];
                for (int at = 0; at < texts.length; at++) {
                    long value = number(texts[at], names);
                    values[at] = method.getParameterTypes()[at] == int.class ? (Object) (int) value : (Object) value;
                }
                return ((Number) method.invoke(sums, values)).longValue();
            }
        }
        throw new NoSuchMethodException(name);
    }

    private static void run(List<String> example) throws ReflectiveOperationException {
        SquareSums sums = null;
        Map<String, Long> names = new TreeMap<>();
        for (String line : example) {
            Matcher call = CALLED.matcher(line);
            Matcher named = NAMED.matcher(line);
            if (MADE.matcher(line).matches()) {
                sums = new SquareSums();
            } else if (named.matches()) {
                names.put(named.group(1), (long) sums.form());
            } else if (call.matches()) {
                long got = answer(sums, call.group(2), call.group(3), names);
                if (got != Long.parseLong(call.group(4))) {
                    tell("README.md: '" + line + "' answered " + got);
                }
            } else {
                tell("README.md: '" + line + "' is no call with its answer");
            }
        }
    }

    public static void main(String[] args) throws Exception {
        List<List<String>> examples = examples();
        if (examples.isEmpty()) {
            tell("README.md has no examples");
        }
        for (List<String> example : examples) {
            run(example);
        }
        String readme = Files.readString(Path.of("README.md"));
        for (Method method : SquareSums.class.getDeclaredMethods()) {
            boolean open = Modifier.isPublic(method.getModifiers());
            if (open && !readme.contains("| `" + method.getName() + "(")) {
                tell("README.md does not tell of " + method.getName() + "()");
            }
        }
        System.out.println(wrong == 0 ? "all examples answer as they say" : wrong + " lines are not as they say");
        if (wrong != 0) {
            System.exit(1);
        }
    }
}
