import java.io.IOException;
import java.lang.reflect.InvocationTargetException;
import java.lang.reflect.Method;
import java.lang.reflect.Modifier;
import java.nio.file.Files;
import java.nio.file.Path;
import java.util.regex.Matcher;
import java.util.regex.Pattern;

/** Makes the calls that README.md shows, in its order, on one object. */
final class ReadmeTest {

    private static final Pattern TOLD = Pattern.compile("tell\\(x, \"([^\"]*)\"\\); // (\\S+)");
    private static final Pattern CALL = Pattern.compile("x\\.(\\w+)\\(([^)]*)\\);(?: // (\\S+))?");

    public static void main(String[] args) throws IOException, IllegalAccessException {
        String readme = Files.readString(Path.of("README.md"));
        OddTouch x = null;
        int calls = 0;
        for (String line : readme.split("\n")) {
            Matcher told = TOLD.matcher(line);
            Matcher call = CALL.matcher(line);
            if (line.equals("OddTouch x = new OddTouch();")) {
                x = new OddTouch();
            } else if (told.matches()) {
                Kit.due(line, Kit.tell(x, told.group(1)), Long.parseLong(told.group(2)));
            } else if (call.matches()) {
                calls++;
                String want = call.group(3) == null ? "null" : call.group(3);
                Kit.due(line, answer(x, call.group(1), call.group(2)), want);
            }
        }
        Kit.due("calls were found", calls > 50, true);
        everyCallIsNamed(readme);
        Kit.end("ReadmeTest");
    }

    private static String answer(OddTouch x, String name, String told) throws IllegalAccessException {
        String[] words = told.isEmpty() ? new String[0] : told.split(", ");
        Method method = methodOf(name);
        Class<?>[] types = method.getParameterTypes();
        Kit.due(name + " takes so many", types.length, words.length);
        Object[] values = new Object[words.length];
        for (int i = 0; i < words.length; i++) {
            values[i] = valueOf(types[i], words[i]);
        }
        try {
            return String.valueOf(method.invoke(x, values));
        } catch (InvocationTargetException e) {
            return e.getCause().getClass().getSimpleName();
        }
    }

    private static Method methodOf(String name) {
        for (Method m : OddTouch.class.getMethods()) {
            if (m.getName().equals(name)) {
                return m;
            }
        }
        throw new IllegalStateException("README.md shows a call that there is not: " + name);
    }

    private static Object valueOf(Class<?> type, String word) {
        if (type == boolean.class) {
            return Boolean.valueOf(word);
        }
        return type == long.class ? (Object) Long.valueOf(word) : (Object) Integer.valueOf(word);
    }

    /** In the table of calls, each with as many arguments as it takes. */
    private static void everyCallIsNamed(String readme) {
        String table = readme.substring(readme.indexOf("### Every call"), readme.indexOf("## Tests"));
        for (Method m : OddTouch.class.getDeclaredMethods()) {
            if (Modifier.isPublic(m.getModifiers())) {
                Matcher row = Pattern.compile("`" + m.getName() + "\\(([^)]*)\\)`").matcher(table);
                Kit.due("the table tells of " + m.getName(), row.find(), true);
                String told = row.group(1);
                Kit.due(m.getName() + " takes", told.isEmpty() ? 0 : told.split(", ").length,
                    m.getParameterCount());
            }
        }
    }
}
