import java.io.IOException;
import java.lang.reflect.InvocationTargetException;
import java.lang.reflect.Method;
import java.nio.file.Files;
import java.nio.file.Path;
import java.util.HashSet;
import java.util.Set;
import java.util.regex.Matcher;
import java.util.regex.Pattern;

/** Makes the calls of README.md's example: each must answer the number that stands behind it. */
public final class ReadmeTest {
    private static final Pattern CALL = Pattern.compile("x\\.(\\w+)\\((.*)\\);\\s*// (-?\\d+)(:.*)?");
    private static final Check CHECK = new Check();

    public static void main(String[] args) throws IOException, ReflectiveOperationException {
        String text = Files.readString(Path.of("README.md"));
        example(text);
        everyCallIsNamed(text);
        CHECK.finish();
    }

    private static void example(String text) throws ReflectiveOperationException {
        ZSaves x = null;
        int calls = 0;
        for (String line : text.split("\n")) {
            Matcher call = CALL.matcher(line);
            if (line.equals("ZSaves x = new ZSaves();")) {
                x = new ZSaves();
            } else if (line.startsWith("x.")) {
                calls++;
                CHECK.holds("a call and its answer: " + line, call.matches());
                CHECK.due(line, answer(x, call.group(1), call.group(2)), Long.parseLong(call.group(3)));
            }
        }
        CHECK.holds("there is an example", calls > 0);
    }

    private static long answer(ZSaves x, String name, String arguments)
        throws IllegalAccessException, InvocationTargetException {
        String[] parts = arguments.isEmpty() ? new String[0] : arguments.split(", ");
        Object[] values = new Object[parts.length];
        for (int i = 0; i < parts.length; i++) {
            values[i] = value(parts[i]);
        }
        return ((Number) method(name).invoke(x, values)).longValue();
    }

    private static Object value(String part) {
        if (part.equals("true") || part.equals("false")) {
            return Boolean.valueOf(part);
        }
        return part.equals("ZSaves.NONE") ? ZSaves.NONE : Integer.parseInt(part);
    }

    private static Method method(String name) {
        for (Method m : ZSaves.class.getMethods()) {
            if (m.getName().equals(name)) {
                return m;
            }
        }
        throw new IllegalArgumentException("README.md calls " + name);
    }

    private static void everyCallIsNamed(String text) {
        Set<String> named = new HashSet<>();
        Matcher names = Pattern.compile("`(\\w+)`").matcher(text);
        while (names.find()) {
            named.add(names.group(1));
        }
        for (Method m : ZSaves.class.getMethods()) {
            boolean own = m.getDeclaringClass() == ZSaves.class;
            CHECK.holds("README.md names " + m.getName(), !own || named.contains(m.getName()));
        }
    }
}
