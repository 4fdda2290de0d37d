import java.io.IOException;
import java.lang.reflect.InvocationTargetException;
import java.lang.reflect.Method;
import java.lang.reflect.Modifier;
import java.nio.file.Files;
import java.nio.file.Path;
import java.util.List;
import java.util.Map;
import java.util.Set;
import java.util.TreeMap;
import java.util.TreeSet;
import java.util.regex.Matcher;
import java.util.regex.Pattern;

/** README.md: its example answers what stands behind each call, and its tables have the whole face. */
public final class ReadmeTest {
    private static final Pattern CALL = Pattern.compile("x\\.(\\w+)\\((.*)\\); +// ([^:]+)(: .+)?");
    private static final Pattern ROW = Pattern.compile("\\| `int (\\w+)\\((.*)\\)` \\|.+\\|.+\\|");
    private static final Pattern CONSTANT = Pattern.compile("\\| `(\\w+)` \\| (-\\d+) \\|.+\\|");
    private static final Map<Integer, String> CONSTANTS = Map.of(
            VirtualRewrite.BAD, "BAD", VirtualRewrite.FULL, "FULL",
            VirtualRewrite.LARGE, "LARGE", VirtualRewrite.NO, "NO");

    public static void main(String[] args) throws IOException, ReflectiveOperationException {
        List<String> lines = Files.readAllLines(Path.of("README.md"));
        example(lines);
        tableOfCalls(lines);
        tableOfConstants(lines);
        Check.end();
    }

    private static void example(List<String> lines) throws ReflectiveOperationException {
        List<String> rest = lines.subList(lines.indexOf("```java") + 1, lines.size());
        VirtualRewrite x = new VirtualRewrite();
        Set<String> called = new TreeSet<>();
        for (String line : rest.subList(0, rest.indexOf("```"))) {
            Matcher call = CALL.matcher(line);
            if (call.matches()) {
                Method method = face().get(call.group(1));
                due(line, answer(x, method, call.group(2)), call.group(3));
                called.add(method.getName());
            } else if (line.startsWith("x.")) {
                Check.fault("README.md tells no answer of " + line);
            }
        }
        due("the calls of README.md's example", called.toString(), face().keySet().toString());
    }

    private static void tableOfCalls(List<String> lines) {
        Set<String> told = new TreeSet<>();
        for (String line : lines) {
            Matcher row = ROW.matcher(line);
            if (row.matches()) {
                told.add(row.group(1) + "(" + row.group(2).replaceAll("(\\w+) \\w+", "$1") + ")");
            }
        }
        Set<String> due = new TreeSet<>();
        for (Method method : face().values()) {
            String text = method.toString();
            due.add(method.getName() + text.substring(text.indexOf('('), text.indexOf(')') + 1));
        }
        due("README.md's table of calls", told.toString().replace(" ", ""), due.toString().replace(" ", ""));
    }

    private static void tableOfConstants(List<String> lines) {
        Map<Integer, String> told = new TreeMap<>();
        for (String line : lines) {
            Matcher row = CONSTANT.matcher(line);
            if (row.matches()) {
                told.put(Integer.valueOf(row.group(2)), row.group(1));
            }
        }
        due("README.md's table of constants", told.toString(), new TreeMap<>(CONSTANTS).toString());
    }

    private static Map<String, Method> face() {
        Map<String, Method> face = new TreeMap<>();
        for (Method method : VirtualRewrite.class.getDeclaredMethods()) {
            if (Modifier.isPublic(method.getModifiers())) {
                face.put(method.getName(), method);
            }
        }
        return face;
    }

    private static String answer(VirtualRewrite x, Method method, String told) throws ReflectiveOperationException {
        String[] texts = told.isEmpty() ? new String[0] : told.split(", ");
        Object[] arguments = new Object[texts.length];
        for (int i = 0; i < texts.length; i++) {
            if (method.getParameterTypes()[i] == boolean.class) {
                arguments[i] = Boolean.valueOf(texts[i]);
            } else {
                arguments[i] = Integer.valueOf(texts[i]);
            }
        }
        try {
            int answer = (Integer) method.invoke(x, arguments);
            return CONSTANTS.getOrDefault(answer, String.valueOf(answer));
        } catch (InvocationTargetException e) {
            return e.getCause().getClass().getSimpleName();
        }
    }

    private static void due(String what, String got, String want) {
        Check.due(what + ": " + got + " is the due " + want + " (1 yes, 0 no)", got.equals(want) ? 1 : 0, 1);
    }
}
