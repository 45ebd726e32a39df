import java.lang.reflect.InvocationTargetException;
import java.lang.reflect.Method;
import java.util.Map;
import java.util.TreeMap;

/** Runs the cases of a test class: each of its methods that takes a Check and nothing else. */
final class Cases {
    private Cases() {
    }

    static void runAll(Class<?> tests) {
        Check check = new Check();
        for (Map.Entry<String, Method> test : casesOf(tests).entrySet()) {
            check.startCase(test.getKey());
            runOne(check, test.getValue());
        }
        check.close(tests.getSimpleName());
    }

    /** By name: the order in which Java tells the methods is its own. */
    private static Map<String, Method> casesOf(Class<?> tests) {
        Map<String, Method> found = new TreeMap<>();
        for (Method m : tests.getDeclaredMethods()) {
            if (m.getParameterCount() == 1 && m.getParameterTypes()[0] == Check.class) {
                found.put(m.getName(), m);
            }
        }
        return found;
    }

    private static void runOne(Check check, Method test) {
        int before = check.answers();
        try {
            test.invoke(null, check);
        } catch (InvocationTargetException e) {
            check.holds("the case broke off with " + e.getCause(), false);
        } catch (IllegalAccessException e) {
            check.holds("the case cannot be called: " + e, false);
        }
        check.holds("the case asks something", check.answers() > before);
    }
}
