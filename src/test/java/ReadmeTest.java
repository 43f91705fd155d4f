import java.io.IOException;
import java.lang.reflect.Method;
import java.lang.reflect.Modifier;
import java.nio.file.Files;
import java.nio.file.Path;
import java.util.Set;
import java.util.TreeSet;
import java.util.regex.Matcher;
import java.util.regex.Pattern;

/** Promises 1 to 50 as README.md shows them: the run of its example, every call and constant named. */
public final class ReadmeTest {
    private static final Pattern CALL = Pattern.compile("^bench\\.(\\w+)\\(([^/]*)\\); *// (-?\\d+|[A-Z]+)\\b.*$");

    public static void main(String[] args) throws IOException, ReflectiveOperationException {
        String text = Files.readString(Path.of("README.md"));
        example(text);
        callsNamed(text);
        constantsNamed(text);
        Due.end();
    }

    private static void example(String text) throws ReflectiveOperationException {
        FilterPile bench = new FilterPile();
        int calls = 0;
        for (String line : text.split("\n")) {
            if (!line.startsWith("bench.")) {
                continue;
            }
            Matcher m = CALL.matcher(line);
            Due.due("README: a line that tells its answer: " + line, m.matches() ? 1 : 0, 1);
            if (m.matches()) {
                Due.due("README: " + line, answer(bench, m.group(1), m.group(2)), number(m.group(3)));
                calls++;
            }
        }
        Due.due("README: it has an example", calls > 0 ? 1 : 0, 1);
    }

    private static long answer(FilterPile bench, String name, String written) throws ReflectiveOperationException {
        String[] parts = written.isEmpty() ? new String[0] : written.split(", ");
        for (Method method : FilterPile.class.getMethods()) {
            if (method.getName().equals(name) && method.getParameterCount() == parts.length) {
                Object[] values = new Object[parts.length];
                for (int n = 0; n < parts.length; n++) {
                    long value = parts[n].startsWith("'") ? parts[n].charAt(1) : Long.parseLong(parts[n]);
                    if (method.getParameterTypes()[n] == int.class) {
                        values[n] = (int) value;
                    } else {
                        values[n] = value;
                    }
                }
                return ((Number) method.invoke(bench, values)).longValue();
            }
        }
        throw new IllegalArgumentException("README: there is no such call: " + name);
    }

    private static long number(String written) throws ReflectiveOperationException {
        boolean named = Character.isLetter(written.charAt(0));
        return named ? ((Number) FilterPile.class.getField(written).get(null)).longValue() : Long.parseLong(written);
    }

    private static void callsNamed(String text) {
        Set<String> left = new TreeSet<>();
        for (Method method : FilterPile.class.getDeclaredMethods()) {
            if (Modifier.isPublic(method.getModifiers()) && !text.contains("`" + method.getName() + "`")) {
                left.add(method.getName());
            }
        }
        Due.dueText("README: calls that it does not name", left.toString(), "[]");
    }

    private static void constantsNamed(String text) throws ReflectiveOperationException {
        Matcher m = Pattern.compile("`([A-Z]+)`\\s+(-\\d+)").matcher(text);
        Set<String> told = new TreeSet<>();
        while (m.find()) {
            Due.due("README: " + m.group(1), number(m.group(2)), number(m.group(1)));
            told.add(m.group(1));
        }
        Due.due("README: constants with their numbers", told.size(), 10);
    }
}
