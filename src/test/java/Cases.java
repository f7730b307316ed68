import java.lang.reflect.InvocationTargetException;
import java.lang.reflect.Method;
import java.util.Arrays;
import java.util.Comparator;

/** Runs every case of a test class, found by its name, so that no case can be written and then forgotten. */
final class Cases {
    private Cases() {
    }

    static void run(Class<?> tests) throws IllegalAccessException {
        Method[] methods = tests.getDeclaredMethods();
        Arrays.sort(methods, Comparator.comparing(Method::getName));
        int cases = 0;
        for (Method method : methods) {
            if (method.getName().startsWith("promise")) {
                cases++;
                runOne(method);
            }
        }
        System.out.print(cases + " cases, ");
        Due.end();
    }

    private static void runOne(Method method) throws IllegalAccessException {
        Due.begin(method.getName());
        int before = Due.looked();
        try {
            method.invoke(null);
        } catch (InvocationTargetException e) {
            Due.isTrue("no throw, but " + e.getCause(), false);
        }
        Due.isTrue("at least one answer is looked at", Due.looked() > before);
    }
}
