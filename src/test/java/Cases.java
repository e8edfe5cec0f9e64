import java.lang.reflect.InvocationTargetException;
import java.lang.reflect.Method;
import java.util.Arrays;
import java.util.Comparator;

/**
 * Runs the tests of a class: each static method whose name begins with its promise, as promise3_ofNoBytesAnywhere.
 * Such a test looks at one sentence of the document; its name is told when it fails.
 */
final class Cases {
    private Cases() {
    }

    static void run(Class<?> tests) {
        int[] result = count(tests);
        System.out.println(tests.getSimpleName() + ": " + result[0] + " tests, " + result[1] + " failed");
        if (result[0] == 0 || result[1] > 0) {
            System.exit(1);
        }
    }

    /** How many tests the class has, and how many of them fail. */
    static int[] count(Class<?> tests) {
        Method[] methods = tests.getDeclaredMethods();
        Arrays.sort(methods, Comparator.comparing(Method::getName));
        int[] result = {0, 0};
        for (Method m : methods) {
            if (m.getName().startsWith("promise")) {
                result[0]++;
                result[1] += holds(m) ? 0 : 1;
            }
        }
        return result;
    }

    private static boolean holds(Method test) {
        Check check = new Check(test.getName());
        try {
            test.invoke(null, check);
        } catch (InvocationTargetException e) {
            check.yes("threw " + e.getCause(), false);
        } catch (ReflectiveOperationException e) {
            check.yes("is no test: " + e, false);
        }
        check.yes("looks at nothing", check.looked() > 0);
        return check.wrong() == 0;
    }
}
