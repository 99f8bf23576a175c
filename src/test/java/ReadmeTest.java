import java.io.IOException;
import java.lang.reflect.InvocationTargetException;
import java.lang.reflect.Method;
import java.lang.reflect.Modifier;
import java.nio.file.Files;
import java.nio.file.Path;
import java.util.Set;
import java.util.TreeSet;
import java.util.regex.Matcher;
import java.util.regex.Pattern;

/** The calls that README.md shows, in order, answer what it says, and each kind of call is among them. */
public final class ReadmeTest {
    private static final String NEW = "    HexhavenIsle isle = new HexhavenIsle();";
    private static final Pattern CALL =
            Pattern.compile("    isle\\.(\\w+)\\((.*)\\); +// ('.'|throws \\w+|[-\\w.]+)(: .+)?");

    private static HexhavenIsle isle = new HexhavenIsle();

    public static void main(String[] args) throws IOException {
        Set<String> shown = new TreeSet<>();
        for (String line : Files.readAllLines(Path.of(args.length > 0 ? args[0] : "README.md"))) {
            Matcher call = CALL.matcher(line);
            if (line.equals(NEW)) {
                isle = new HexhavenIsle();
            } else if (call.matches()) {
                shown.add(call.group(1));
                String asked = call.group(1) + "(" + call.group(2) + ") = ";
                Due.due(asked + call.group(3), () -> asked + answer(call));
            } else {
                Due.due(false, () -> line.startsWith("    isle."));
            }
        }
        for (Method method : HexhavenIsle.class.getDeclaredMethods()) {
            if (Modifier.isPublic(method.getModifiers())) {
                Due.due(method.getName(), () -> shown.contains(method.getName()) ? method.getName() : "not shown");
            }
        }
        Due.finish();
    }

    /** The answer of a call, as it would be written in a program. */
    private static String answer(Matcher call) {
        for (Method method : HexhavenIsle.class.getDeclaredMethods()) {
            if (method.getName().equals(call.group(1)) && Modifier.isPublic(method.getModifiers())) {
                return ask(method, call.group(2));
            }
        }
        return "no such call";
    }

    private static String ask(Method method, String written) {
        Class<?>[] types = method.getParameterTypes();
        String[] parts = written.isEmpty() ? new String[0] : written.split(", ");
        if (parts.length != types.length) {
            return "arguments of another number";
        }
        Object[] values = new Object[types.length];
        for (int i = 0; i < values.length; i++) {
            values[i] = value(types[i], parts[i]);
        }
        try {
            Object answer = method.invoke(isle, values);
            return answer instanceof Character ? "'" + answer + "'" : answer.toString();
        } catch (InvocationTargetException e) {
            return "throws " + e.getCause().getClass().getSimpleName();
        } catch (IllegalAccessException e) {
            return e.toString();
        }
    }

    private static Object value(Class<?> type, String written) {
        if (type == char.class) {
            return written.charAt(1);
        }
        if (type == boolean.class) {
            return Boolean.valueOf(written);
        }
        return Integer.valueOf(written);
    }
}
