import java.io.IOException;
import java.lang.reflect.InvocationTargetException;
import java.lang.reflect.Method;
import java.nio.charset.StandardCharsets;
import java.nio.file.Files;
import java.nio.file.Path;
import java.util.HashMap;
import java.util.HashSet;
import java.util.List;
import java.util.Map;
import java.util.Set;
import java.util.regex.Matcher;
import java.util.regex.Pattern;

/** What README.md shows is so: each line of code there answers what stands behind it, each file is named there. */
public final class ReadmeTest {
    private static final Pattern CALL = Pattern.compile(" {4}count\\.(\\w+)\\((.*)\\); +// (-?\\d+)(:.*)?");
    private static final String NEW = "    KeepCount count = new KeepCount();";

    private static final Check check = new Check();
    private static final Map<String, Method> methods = new HashMap<>();

    public static void main(String[] args) throws IOException, IllegalAccessException, InvocationTargetException {
        for (Method m : KeepCount.class.getMethods()) {
            if (m.getDeclaringClass() == KeepCount.class) {
                methods.put(m.getName(), m);
            }
        }
        List<String> lines = Files.readAllLines(Path.of("README.md"), StandardCharsets.UTF_8);
        calls(lines);
        files(String.join("\n", lines), Path.of("src/main/java"));
        files(String.join("\n", lines), Path.of("src/test/java"));
        check.end(70);
    }

    private static void calls(List<String> lines) throws IllegalAccessException, InvocationTargetException {
        KeepCount count = new KeepCount();
        Set<String> shown = new HashSet<>();
        for (String line : lines) {
            if (line.equals(NEW)) {
                count = new KeepCount();
            } else if (line.startsWith("    count")) {
                Matcher m = CALL.matcher(line);
                check.due("is a call, and its answer: " + line, 1, m.matches() ? 1 : 0);
                if (m.matches()) {
                    check.due(line, Long.parseLong(m.group(3)), answer(count, m.group(1), m.group(2)));
                    shown.add(m.group(1));
                }
            }
        }
        check.due("calls that are shown " + shown, 1, shown.size() >= 30 ? 1 : 0);
    }

    private static long answer(KeepCount count, String name, String told) throws IllegalAccessException, InvocationTargetException {
        Method method = methods.get(name);
        String[] each = told.isEmpty() ? new String[0] : told.split(", ");
        if (method == null || method.getParameterCount() != each.length) {
            return Long.MAX_VALUE;
        }
        Object[] values = new Object[each.length];
        for (int i = 0; i < each.length; i++) {
            values[i] = value(method.getParameterTypes()[i], each[i]);
        }
        return ((Number) method.invoke(count, values)).longValue();
    }

    private static Object value(Class<?> type, String told) {
        if (type == boolean.class) {
            return Boolean.valueOf(told);
        }
        long number = told.startsWith("'") ? told.charAt(1) : Long.parseLong(told);
        return type == int.class ? (Object) (int) number : (Object) number;
    }

    private static void files(String page, Path folder) throws IOException {
        try (var inside = Files.list(folder)) {
            for (Path file : inside.toList()) {
                String name = file.getFileName().toString();
                check.due("names " + name, 1, page.contains(name + "`") ? 1 : 0);
            }
        }
    }
}
