import java.lang.management.ManagementFactory;
import java.lang.reflect.Constructor;
import java.lang.reflect.Field;
import java.lang.reflect.Method;
import java.lang.reflect.Modifier;
import java.nio.file.Files;
import java.nio.file.Path;
import java.util.ArrayList;
import java.util.List;
import java.util.Set;
import java.util.TreeSet;
import java.util.regex.Matcher;
import java.util.regex.Pattern;

/** What LANGUAGE.md asks of the file and can be seen without running much of it. Runs in the project's folder. */
public final class LanguageTest {
    private static final Set<String> FACE = Set.of(
        "int variables(int)", "int form()", "int term(int, int, int, int)", "long value(int, int, int, int, int)",
        "int plain(int)", "int prove(int)", "int under(int, int, int)", "int told(int)", "long weight(int, int)",
        "long line(int, int, int)", "long point(int, int)", "long near(int)", "int plant(int, long, long)",
        "int check()", "int equal()", "long pivot(long, long)", "int count(int)");

    private static int wrong = 0;

    private static void hold(boolean holds, String what) {
        if (!holds) {
            wrong++;
            System.out.println("does not hold: " + what);
        }
    }

    private static String told(Method method) {
        List<String> types = new ArrayList<>();
        for (Class<?> type : method.getParameterTypes()) {
            types.add(type.getName());
        }
        return method.getReturnType().getName() + " " + method.getName() + "(" + String.join(", ", types) + ")";
    }

    private static void face() {
        hold(Modifier.isFinal(SquareSums.class.getModifiers()), "the class is final");
        Set<String> open = new TreeSet<>();
        Set<String> openNames = new TreeSet<>();
        for (Method method : SquareSums.class.getDeclaredMethods()) {
            if (!Modifier.isPrivate(method.getModifiers())) {
                open.add(told(method));
                openNames.add(method.getName());
                hold(Modifier.isPublic(method.getModifiers()), "public: " + method);
            }
        }
        hold(open.equals(new TreeSet<>(FACE)), "the face: " + open);
        for (Class<?> type : allClasses()) {
            for (Method method : type.getDeclaredMethods()) {
                boolean own = Modifier.isPublic(method.getModifiers());
                hold(own || !openNames.contains(method.getName()), "no name of the face: " + method);
            }
        }
        for (Constructor<?> constructor : SquareSums.class.getDeclaredConstructors()) {
            hold(constructor.getParameterCount() == 0, "only SquareSums()");
        }
        Set<String> constants = new TreeSet<>();
        for (Field field : SquareSums.class.getDeclaredFields()) {
            if (!Modifier.isPrivate(field.getModifiers())) {
                constants.add(field.getName());
            }
        }
        hold(constants.equals(new TreeSet<>(Set.of("BAD", "STATE", "FULL", "LONG"))), "the constants: " + constants);
    }

    private static void words() throws Exception {
        String source = Files.readString(Path.of("src/main/java/SquareSums.java"));
        String code = source.replaceAll("(?s)/\\*.*?\\*/", "").replaceAll("//[^\n]*", "");
        String[] banned = {"throw", "throws", "try", "catch", "synchronized", "assert", "import", "package",
            "protected", "Double", "Float", "NaN", "Object", "\\w+Exact", "->", "::"};
        for (String word : banned) {
            String edge = word.matches("\\W+") ? "" : "\\b";
            Matcher found = Pattern.compile(edge + word + edge).matcher(code);
            hold(!found.find(), "no '" + word + "' in the class");
        }
    }

    private static List<Class<?>> allClasses() {
        List<Class<?>> classes = new ArrayList<>(List.of(SquareSums.class.getDeclaredClasses()));
        classes.add(SquareSums.class);
        return classes;
    }

    private static void sizes() throws Exception {
        List<Class<?>> classes = allClasses();
        hold(classes.size() <= 12, "at most twelve classes");
        for (Class<?> type : classes) {
            hold(type == SquareSums.class || Modifier.isStatic(type.getModifiers()), "static: " + type);
            int fields = 0;
            for (Field field : type.getDeclaredFields()) {
                boolean ofClass = Modifier.isStatic(field.getModifiers());
                fields += ofClass ? 0 : 1;
                hold(!ofClass || Modifier.isFinal(field.getModifiers()), "a constant: " + field);
            }
            hold(fields <= 20, "at most twenty fields: " + type);
            for (Method method : type.getDeclaredMethods()) {
                hold(method.getParameterCount() <= 7, "at most seven parameters: " + method);
            }
        }
        List<String> lines = Files.readAllLines(Path.of("src/main/java/SquareSums.java"));
        Pattern head = Pattern.compile(
            "( +)((public|private|static|int|long|boolean|void|[A-Z]\\w*) )*\\w+\\([^()]*\\) \\{");
        int methods = 0;
        for (int at = 0; at < lines.size(); at++) {
            Matcher found = head.matcher(lines.get(at));
            if (found.matches()) {
                methods++;
                int end = at + lines.subList(at, lines.size()).indexOf(found.group(1) + "}");
                hold(end - at < 60, "a method is short: " + lines.get(at).trim());
            }
        }
        hold(methods > 50, "methods were found: " + methods);
    }

    /** All calls of one run live in one room: the dearest of them makes nothing. */
    private static void room() {
        SquareSums x = new SquareSums();
        x.variables(4);
        x.form();
        x.form();
        for (int k = 1; k <= 4; k++) {
            x.term(0, 0, k, k);
            x.term(0, k, k, 1);
            x.term(1, k, k, -1);
        }
        x.term(0, 0, 0, 1);
        x.term(1, 0, 0, -1);
        var threads = (com.sun.management.ThreadMXBean) ManagementFactory.getThreadMXBean();
        long self = Thread.currentThread().getId();
        threads.getThreadAllocatedBytes(self);
        long before = threads.getThreadAllocatedBytes(self);
        for (int calls = 0; calls < 100; calls++) {
            x.under(0, 1, 20);
            x.prove(0);
            x.plain(0);
            x.check();
            x.equal();
        }
        long made = threads.getThreadAllocatedBytes(self) - before;
        hold(made < 20000, "calls make no objects; they made " + made + " bytes");
    }

    public static void main(String[] args) throws Exception {
        face();
        words();
        sizes();
        room();
        System.out.println(wrong == 0 ? "all rules looked at are kept" : wrong + " rules are not kept");
        if (wrong != 0) {
            System.exit(1);
        }
    }
}
