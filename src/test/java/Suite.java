import java.lang.reflect.InvocationTargetException;
import java.lang.reflect.Method;
import java.lang.reflect.Modifier;
import java.util.ArrayList;
import java.util.Arrays;
import java.util.Comparator;
import java.util.List;

/** The tests of a class: its static methods without parameters whose names begin with "promise" and its number. */
final class Suite {
    private static final String BEGINNING = "promise";

    private Suite() {
    }

    static void run(Class<?> tests) {
        List<Method> methods = testsOf(tests);
        for (Method method : methods) {
            runOne(method);
        }
        System.out.println(methods.size() + " tests in " + tests.getName());
        Checks.end();
    }

    static List<Method> testsOf(Class<?> tests) {
        List<Method> found = new ArrayList<>();
        for (Method method : tests.getDeclaredMethods()) {
            if (promiseOf(method) > 0 && method.getParameterCount() == 0 && Modifier.isStatic(method.getModifiers())) {
                found.add(method);
            }
        }
        found.sort(Comparator.comparingInt(Suite::promiseOf).thenComparing(Method::getName));
        return found;
    }

    /** 0 if the method is not named after a promise. */
    static int promiseOf(Method method) {
        String name = method.getName();
        int end = BEGINNING.length();
        while (end < name.length() && Character.isDigit(name.charAt(end))) {
            end++;
        }
        boolean named = name.startsWith(BEGINNING) && end > BEGINNING.length();
        return named ? Integer.parseInt(name.substring(BEGINNING.length(), end)) : 0;
    }

    private static void runOne(Method method) {
        Checks.begin(method.getName());
        int before = Checks.made();
        try {
            method.invoke(null);
        } catch (InvocationTargetException e) {
            Checks.fail("threw " + e.getCause() + " at " + Arrays.toString(e.getCause().getStackTrace()));
        } catch (IllegalAccessException e) {
            Checks.fail("is private");
        }
        if (Checks.made() == before) {
            Checks.fail("checked nothing");
        }
    }
}
