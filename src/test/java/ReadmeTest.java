import java.io.IOException;
import java.lang.reflect.InvocationTargetException;
import java.lang.reflect.Method;
import java.nio.file.Files;
import java.nio.file.Path;
import java.util.HashMap;
import java.util.HashSet;
import java.util.Map;
import java.util.Set;
import java.util.TreeSet;
import java.util.regex.Matcher;
import java.util.regex.Pattern;

/** The examples of README.md answer what it says, and every call has one; run at the root. */
public final class ReadmeTest {
    private static final String BLOCK = "```";
    private static final String NEW_BENCH = "ShadowBench bench = new ShadowBench();";
    private static final Pattern EXAMPLE = Pattern.compile(
            "(?:int (\\w+) = )?bench\\.(\\w+)\\((.*)\\); +// .*: (-?\\d+|throws \\w+)");

    private final Map<String, Method> face = new HashMap<>();
    private final Set<String> shown = new HashSet<>();
    private final Map<String, String> names = new HashMap<>();
    private ShadowBench bench = null;

    private ReadmeTest() {
        for (Method method : ShadowBench.class.getMethods()) {
            if (method.getDeclaringClass() == ShadowBench.class) {
                face.put(method.getName(), method);
            }
        }
    }

    public static void main(String[] args) throws IOException {
        new ReadmeTest().examples();
        Check.end();
    }

    private void examples() throws IOException {
        boolean inJava = false;
        for (String line : Files.readAllLines(Path.of("README.md"))) {
            if (line.startsWith(BLOCK)) {
                inJava = line.equals(BLOCK + "java");
                bench = null;
                names.clear();
            } else if (inJava) {
                example(line);
            }
        }
        Set<String> missing = new TreeSet<>(face.keySet());
        missing.removeAll(shown);
        Check.due("calls without an example", missing.toString(), "[]");
    }

    private void example(String line) {
        if (line.equals(NEW_BENCH)) {
            bench = new ShadowBench();
            return;
        }
        Matcher parts = EXAMPLE.matcher(line);
        boolean isExample = parts.matches() && bench != null && face.containsKey(parts.group(2));
        Check.isTrue("no example: " + line, isExample);
        if (isExample) {
            shown.add(parts.group(2));
            String got = answer(face.get(parts.group(2)), parts.group(3));
            Check.due(line, got, parts.group(4));
            if (parts.group(1) != null) {
                names.put(parts.group(1), got);
            }
        }
    }

    private String answer(Method method, String written) {
        Class<?>[] types = method.getParameterTypes();
        String[] words = written.isEmpty() ? new String[0] : written.split(", ");
        if (words.length != types.length) {
            return "nothing, for it takes " + types.length;
        }
        Object[] values = new Object[types.length];
        for (int i = 0; i < types.length; i++) {
            values[i] = value(types[i], names.getOrDefault(words[i], words[i]));
        }
        try {
            return String.valueOf(method.invoke(bench, values));
        } catch (InvocationTargetException e) {
            return "throws " + e.getCause().getClass().getSimpleName();
        } catch (IllegalAccessException e) {
            return "nothing, for it is hidden";
        }
    }

    private static Object value(Class<?> type, String word) {
        if (type == boolean.class) {
            return Boolean.valueOf(word);
        }
        if (type == long.class) {
            return Long.valueOf(word);
        }
        return Integer.valueOf(word);
    }
}
