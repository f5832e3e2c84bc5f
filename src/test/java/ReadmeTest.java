import java.io.IOException;
import java.lang.reflect.Method;
import java.lang.reflect.Modifier;
import java.nio.file.Files;
import java.nio.file.Path;
import java.util.Set;
import java.util.TreeSet;
import java.util.regex.Matcher;
import java.util.regex.Pattern;

/** What README.md tells of the class: its calls, in order on one object, answer as they are told to. */
final class ReadmeTest {
    private static final Checks CHECKS = new Checks("ReadmeTest");
    private static final Pattern LINE = Pattern.compile("(?m)^x\\..*$");
    private static final Pattern CALL = Pattern.compile("x\\.(\\w+)\\(([^)]*)\\); +// (-?\\d+)(:.*)?");

    public static void main(String[] args) throws IOException, ReflectiveOperationException {
        ThirtyNine x = new ThirtyNine();
        Set<String> shown = new TreeSet<>();
        Matcher line = LINE.matcher(Files.readString(Path.of("README.md")));
        while (line.find()) {
            Matcher call = CALL.matcher(line.group());
            CHECKS.holds("a call and its answer: " + line.group(), call.matches());
            if (call.matches()) {
                shown.add(call.group(1));
                CHECKS.due(line.group(), answer(x, call.group(1), call.group(2)), Long.parseLong(call.group(3)));
            }
        }
        CHECKS.holds("each call of the face is shown: " + shown, shown.equals(face()));
        CHECKS.end();
    }

    private static Set<String> face() {
        Set<String> names = new TreeSet<>();
        for (Method method : ThirtyNine.class.getDeclaredMethods()) {
            if (Modifier.isPublic(method.getModifiers())) {
                names.add(method.getName());
            }
        }
        return names;
    }

    private static long answer(ThirtyNine x, String name, String told) throws ReflectiveOperationException {
        String[] texts = told.isEmpty() ? new String[0] : told.split(", ");
        for (Method method : ThirtyNine.class.getDeclaredMethods()) {
            if (method.getName().equals(name) && method.getParameterCount() == texts.length) {
                Object[] values = new Object[texts.length];
                for (int i = 0; i < texts.length; i++) {
                    values[i] = value(texts[i], method.getParameterTypes()[i]);
                }
                return ((Number) method.invoke(x, values)).longValue();
            }
        }
        throw new NoSuchMethodException(name + "(" + told + ")");
    }

    private static Object value(String text, Class<?> type) {
        if (text.equals("ThirtyNine.NONE")) {
            return ThirtyNine.NONE;
        }
        long number = Long.decode(text.endsWith("L") ? text.substring(0, text.length() - 1) : text);
        if (type == int.class) {
            return (int) number;
        }
        return number;
    }
}
