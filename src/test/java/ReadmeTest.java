import java.io.IOException;
import java.lang.reflect.Method;
import java.lang.reflect.Modifier;
import java.nio.file.Files;
import java.nio.file.Path;
import java.util.HashMap;
import java.util.Map;
import java.util.Set;
import java.util.TreeSet;
import java.util.regex.Matcher;
import java.util.regex.Pattern;

/** README.md: the calls of its example answer what stands behind them, and it names every call of the face. */
public final class ReadmeTest {
    // Such as "int first = x.span(0, 0);  // -1: why": the name, the call, its arguments, its answer.
    private static final Pattern LINE = Pattern.compile(
        "(?:\\w+ (\\w+) = )?x\\.(\\w+)\\((.*)\\);(?:\\s*// (-?\\w+).*)?");

    private final YearFractions x = new YearFractions();
    private final Map<String, String> named = new HashMap<>();
    private final Set<String> called = new TreeSet<>();

    public static void main(String[] args) throws IOException, ReflectiveOperationException {
        String text = Files.readString(Path.of("README.md"));
        int from = text.indexOf("```java");
        ReadmeTest example = new ReadmeTest();
        for (String line : text.substring(from, text.indexOf("```", from + 3)).split("\n")) {
            example.follow(line);
        }
        for (Method method : YearFractions.class.getDeclaredMethods()) {
            if (Modifier.isPublic(method.getModifiers())) {
                Due.isTrue("the example calls " + method.getName(), example.called.contains(method.getName()));
                Due.isTrue("the table names " + method.getName(), text.contains("`" + method.getName() + "("));
            }
        }
        Due.end("ReadmeTest");
    }

    private void follow(String line) throws ReflectiveOperationException {
        Matcher parts = LINE.matcher(line);
        if (!parts.matches()) {
            boolean isCall = line.contains("x.");
            Due.isTrue("the line is understood: " + line, !isCall);
            return;
        }
        String answer = String.valueOf(call(parts.group(2), parts.group(3)));
        called.add(parts.group(2));
        if (parts.group(1) != null) {
            named.put(parts.group(1), answer);
        }
        if (parts.group(4) != null) {
            Due.shows(line, parts.group(4), () -> answer);
        }
    }

    private Object call(String name, String given) throws ReflectiveOperationException {
        for (Method method : YearFractions.class.getMethods()) {
            if (method.getName().equals(name)) {
                return method.invoke(x, values(given, method.getParameterTypes()));
            }
        }
        throw new NoSuchMethodException(name);
    }

    private Object[] values(String given, Class<?>[] types) {
        Object[] values = new Object[types.length];
        String[] words = given.split(", ");
        for (int i = 0; i < types.length; i++) {
            String word = named.getOrDefault(words[i], words[i]);
            if (types[i] == long.class) {
                values[i] = Long.valueOf(word);
            } else {
                values[i] = Integer.valueOf(word);
            }
        }
        return values;
    }
}
