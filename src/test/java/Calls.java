import java.lang.reflect.InvocationTargetException;
import java.lang.reflect.Method;
import java.util.Arrays;
import java.util.HashMap;
import java.util.Map;

/** Makes calls by their names, prints those whose answers are not due, and counts them. */
final class Calls {
    static final String NO_SUCH = "throws.NoSuchElementException";
    static final String ARGUMENT = "throws.IllegalArgumentException";
    static final String STATE = "throws.IllegalStateException";
    static final String INDEX = "throws.IndexOutOfBoundsException";
    static final String ARITHMETIC = "throws.ArithmeticException";

    private static final Map<String, Method> METHODS = new HashMap<>();
    private static int wrong = 0;
    private static int asked = 0;

    private Calls() {
    }

    /** The answer of a call; for an exception, throws. and the name of exactly its class. */
    static Object answer(Object hall, String name, Object... arguments) {
        try {
            return method(hall.getClass(), name).invoke(hall, arguments);
        } catch (InvocationTargetException e) {
            return "throws." + e.getCause().getClass().getSimpleName();
        } catch (IllegalAccessException e) {
            throw new AssertionError(e);
        }
    }

    /** A boolean is due as true or false, a char as a char, any other number as a number. */
    static void due(Object want, Certhold hall, String name, Object... arguments) {
        same(name + Arrays.toString(arguments), plain(want), plain(answer(hall, name, arguments)));
    }

    static void same(String what, Object want, Object got) {
        asked++;
        if (!want.equals(got)) {
            wrong++;
            System.out.println(what + " answered " + got + ", due is " + want);
        }
    }

    static void end() {
        System.out.println(asked + " answers, " + wrong + " not as due");
        if (wrong != 0 || asked == 0) {
            System.exit(1);
        }
    }

    private static Object plain(Object answer) {
        if (answer instanceof Integer) {
            return ((Integer) answer).longValue();
        }
        return answer;
    }

    private static Method method(Class<?> type, String name) {
        return METHODS.computeIfAbsent(type.getName() + "." + name, key -> {
            for (Method each : type.getDeclaredMethods()) {
                if (each.getName().equals(name)) {
                    return each;
                }
            }
            throw new AssertionError("no method " + key);
        });
    }
}
