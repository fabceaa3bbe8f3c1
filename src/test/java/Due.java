import java.lang.reflect.InvocationTargetException;
import java.lang.reflect.Method;
import java.lang.reflect.Modifier;
import java.util.Map;
import java.util.TreeMap;

/** Counts and prints the answers that are not the ones that are due. */
final class Due {
    private static int wrong = 0;

    private Due() {
    }

    static void is(String what, long got, long want) {
        if (got != want) {
            wrong++;
            System.out.println(what + " answered " + got + ", due is " + want);
        }
    }

    static void holds(String what, boolean held) {
        if (!held) {
            wrong++;
            System.out.println(what + ": does not hold");
        }
    }

    /** Runs every test of a class, those methods without parameters, so that none can be forgotten. */
    static void runAll(Class<?> tests) throws IllegalAccessException, InvocationTargetException {
        Map<String, Method> byName = new TreeMap<>();
        for (Method method : tests.getDeclaredMethods()) {
            if (Modifier.isStatic(method.getModifiers()) && method.getParameterCount() == 0 && !method.isSynthetic()) {
                byName.put(method.getName(), method);
            }
        }
        for (Method test : byName.values()) {
            test.setAccessible(true);
            test.invoke(null);
        }
        System.out.println(byName.size() + " tests");
    }

    static void end() {
        System.out.println(wrong == 0 ? "all answers are as due" : wrong + " answers are not as due");
        if (wrong != 0) {
            System.exit(1);
        }
    }
}
