import java.lang.reflect.InvocationTargetException;
import java.lang.reflect.Method;
import java.lang.reflect.Modifier;
import java.util.ArrayList;
import java.util.Arrays;
import java.util.Comparator;
import java.util.List;
import java.util.Random;

/**
 * Calls with any arguments in any state: what comes out is an answer, or an exception that the
 * document names for the call, made by a throw of the class and never by the machine.
 */
final class WildTest {

    private static final int RUNS = 400;
    private static final int CALLS = 512;
    private static final int[] EDGES = {Integer.MIN_VALUE, Integer.MIN_VALUE + 1, -1000, -100, -13, -12, -11, -10, -9,
        -3, -2, -1, 0, 1, 2, 3, 4, 5, 6, 7, 8, 9, 10, 11, 12, 13, 15, 16, 17, 18, 19, 20, 29, 30, 31, 32, 33, 63, 64,
        99, 100, 127, 128, 255, 256, 299, 300, 511, 900, 901, 999, 1000, 65535, 1 << 30, Integer.MAX_VALUE};
    private static final String[] PIECES = {"places ", "touch ", "thing ", "event ", "zero ", "law ", "count ", "kind ",
        "slow ", "stays", "wall", "more ", "less ", "even", "odd", "both", "neither", "not ", "[", "]", "(", ")", "=",
        "<", ">", "+", "-", "*", ";", ";", ";", "a", "b", "odda", "evenb", "alike", " and ", " or ", " ", "\n", "0",
        "1", "2", "9", "10", "99", "999", "1000", "\u00ff", "\u0080", "\u0000", "~", "A"};

    private final Random random;
    private final List<Method> calls = new ArrayList<>();

    private WildTest(long seed) {
        random = new Random(seed);
        for (Method m : OddTouch.class.getDeclaredMethods()) {
            if (Modifier.isPublic(m.getModifiers())) {
                calls.add(m);
            }
        }
        // Reflection tells methods in any order; the draws must be the same ones each time.
        calls.sort(Comparator.comparing(Method::getName));
    }

    public static void main(String[] args) throws IllegalAccessException {
        WildTest test = new WildTest(20261118);
        for (int i = 0; i < RUNS; i++) {
            test.run();
        }
        Kit.end("WildTest");
    }

    private void run() throws IllegalAccessException {
        OddTouch x = new OddTouch();
        for (int i = 0; i < CALLS; i++) {
            if (i == 0 || random.nextInt(60) == 0) {
                tellAny(x);
            }
            Method m = calls.get(random.nextInt(calls.size()));
            Object[] values = new Object[m.getParameterCount()];
            for (int k = 0; k < values.length; k++) {
                values[k] = anyValue(m.getParameterTypes()[k]);
            }
            if (m.getName().equals("town") && random.nextInt(4) != 0) {
                values[0] = x.count(8);
            }
            call(x, m, values);
        }
    }

    private void tellAny(OddTouch x) {
        x.town(x.count(8));
        if (random.nextInt(4) == 0) {
            Kit.tell(x, anyText());
        } else {
            Kit.due("a town without a fault", Kit.tell(x, goodText()) > 0, true);
        }
    }

    private static void call(OddTouch x, Method m, Object[] values) throws IllegalAccessException {
        String label = m.getName() + Arrays.toString(values);
        try {
            m.invoke(x, values);
            Kit.due(label, true, true);
        } catch (InvocationTargetException e) {
            Throwable thrown = e.getCause();
            boolean told = Arrays.asList(m.getExceptionTypes()).contains(thrown.getClass());
            boolean own = thrown.getStackTrace().length > 0
                && thrown.getStackTrace()[0].getClassName().startsWith("OddTouch");
            Kit.due(label + " threw " + thrown, told && own, true);
        }
    }

    private Object anyValue(Class<?> type) {
        if (type == boolean.class) {
            return random.nextBoolean();
        }
        int value = random.nextInt(3) == 0 ? EDGES[random.nextInt(EDGES.length)] : random.nextInt(12) - 1;
        if (type == long.class) {
            return random.nextInt(8) == 0 ? (Object) random.nextLong() : (Object) (long) value;
        }
        return value;
    }

    private String anyText() {
        StringBuilder s = new StringBuilder("places 10;");
        for (int i = random.nextInt(300); i > 0 && s.length() < 880; i--) {
            s.append(PIECES[random.nextInt(PIECES.length)]);
        }
        return s.toString();
    }

    private String goodText() {
        int places = 1 + random.nextInt(10);
        StringBuilder s = new StringBuilder("places " + places + ";");
        int touches = 0;
        for (int p = 0; p < places; p++) {
            for (int q = p + 1; q < places; q++) {
                if (touches < 20 && random.nextInt(3) == 0) {
                    s.append("touch " + p + " " + q + (random.nextBoolean() ? " wall;" : ";"));
                    touches++;
                }
            }
        }
        int things = 0;
        for (int p = 0; p < places; p++) {
            if (things < 8 && random.nextInt(4) != 0) {
                s.append("thing " + p + " count " + random.nextInt(100) + " kind " + random.nextInt(3) + ";");
                things++;
            }
        }
        for (int e = random.nextInt(7); e > 0 && things > 0; e--) {
            s.append("event " + random.nextInt(1000) + " thing " + random.nextInt(things) + " less 3;");
        }
        s.append(random.nextBoolean() ? "law a*a*a*a-b*b*b*b<999*999 or wall=alike;" : "zero odd;");
        return s.toString();
    }
}
