import java.lang.reflect.InvocationTargetException;
import java.lang.reflect.Method;
import java.util.Arrays;
import java.util.HashMap;
import java.util.Map;
import java.util.WeakHashMap;

/** Makes calls by their names, prints those whose answers are not due, and counts them. */
final class Calls {
    static final String NO_SUCH = "throws.NoSuchElementException";
    static final String ARGUMENT = "throws.IllegalArgumentException";
    static final String STATE = "throws.IllegalStateException";
    static final String INDEX = "throws.IndexOutOfBoundsException";
    static final String ARITHMETIC = "throws.ArithmeticException";

    // The document leaves free what an object answers to later calls.
    private static final int MOST_CALLS = 512;

    private static final Map<String, Method> METHODS = new HashMap<>();
    private static final Map<Object, Integer> MADE = new WeakHashMap<>();
    private static int wrong = 0;
    private static int asked = 0;

    private Calls() {
    }

    /** The answer of a call; for an exception, throws. and the name of exactly its class. */
    static Object answer(Object hall, String name, Object... arguments) {
        if (MADE.merge(hall, 1, Integer::sum) > MOST_CALLS) {
            throw new AssertionError("a test makes more than 512 calls of one object");
        }
        try {
            return method(hall.getClass(), name).invoke(hall, arguments);
        } catch (InvocationTargetException e) {
            return "throws." + e.getCause().getClass().getSimpleName();
        } catch (IllegalAccessException e) {
            throw new AssertionError(e);
        }
    }

    /** A boolean is due as true or false, a char as a char, any other number as a number. */
    static void due(Object want, Certhold hall, String name, Object... arguments) {
        same(name + Arrays.toString(arguments), plain(want), plain(answer(hall, name, arguments)));
    }

    /** Asks for the best chain and for the number of good chains, in both ways. */
    static void chains(Certhold hall, int first, int day, int good, int... best) {
        due(best.length, hall, "chainSize", first, day);
        due(good, hall, "goodChainsByWalks", first, day);
        due(good, hall, "goodChains", first, day);
        for (int index = 0; index < best.length; index++) {
            due(best[index], hall, "chainAt", first, day, index);
        }
        due(INDEX, hall, "chainAt", first, day, best.length);
        due(INDEX, hall, "chainAt", first, day, -1);
    }

    /** Asks for all candidates of a certificate, and for those that are not there. */
    static void candidates(Certhold hall, int certificate, int... wants) {
        due(wants.length, hall, "candidates", certificate);
        for (int rank = 0; rank < wants.length; rank++) {
            due(wants[rank], hall, "candidateAt", certificate, rank);
        }
        for (int rank : new int[] {-1, wants.length, Integer.MIN_VALUE, Integer.MAX_VALUE}) {
            due(INDEX, hall, "candidateAt", certificate, rank);
        }
    }

    /** Asks where the walk stands. */
    static void walk(Certhold hall, int reached, int walked, boolean isThrough) {
        due(reached, hall, "reached");
        due(walked, hall, "walked");
        due(isThrough, hall, "isThrough");
    }

    static void same(String what, Object want, Object got) {
        asked++;
        if (!want.equals(got)) {
            wrong++;
            System.out.println(what + " answered " + got + ", due is " + want);
        }
    }

    static void end() {
        System.out.println(asked + " answers, " + wrong + " not as due");
        if (wrong != 0 || asked == 0) {
            System.exit(1);
        }
    }

    private static Object plain(Object answer) {
        if (answer instanceof Integer) {
            return ((Integer) answer).longValue();
        }
        return answer;
    }

    private static Method method(Class<?> type, String name) {
        return METHODS.computeIfAbsent(type.getName() + "." + name, key -> {
            for (Method each : type.getDeclaredMethods()) {
                if (each.getName().equals(name)) {
                    return each;
                }
            }
            throw new AssertionError("no method " + key);
        });
    }
}
