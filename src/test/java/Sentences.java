import java.lang.reflect.InvocationTargetException;
import java.lang.reflect.Method;
import java.util.ArrayList;
import java.util.Comparator;
import java.util.List;

/** Runs the tests that name a sentence; what goes wrong in one is told with its promise and sentence. */
final class Sentences {
    private Sentences() {
    }

    static List<Method> testsOf(Class<?> tests) {
        List<Method> found = new ArrayList<>();
        for (Method m : tests.getDeclaredMethods()) {
            if (m.isAnnotationPresent(Sentence.class)) {
                found.add(m);
            }
        }
        found.sort(Comparator.comparing(Method::getName));
        return found;
    }

    static void runAll(Class<?> tests) {
        for (Method m : testsOf(tests)) {
            Sentence of = m.getAnnotation(Sentence.class);
            Check.about("promise " + of.promise() + " \"" + of.says() + "\", " + m.getName());
            int before = Check.asked();
            runOne(m);
            Check.due("it looked at an answer", Check.asked() > before, true);
        }
        Check.about("");
        Check.due("there are tests", testsOf(tests).isEmpty(), false);
        Check.end();
    }

    private static void runOne(Method m) {
        try {
            m.setAccessible(true);
            m.invoke(null);
        } catch (InvocationTargetException e) {
            Check.due("it threw " + e.getCause() + ", that", true, false);
        } catch (IllegalAccessException e) {
            throw new IllegalStateException(e);
        }
    }
}
