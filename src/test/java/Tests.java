import java.lang.reflect.InvocationTargetException;
import java.lang.reflect.Method;
import java.util.ArrayList;
import java.util.Comparator;
import java.util.List;

/** Runs every test of a class, each on its own: one that throws does not keep the others from running. */
final class Tests {
    private Tests() {
    }

    static List<Method> of(Class<?> tests) {
        List<Method> found = new ArrayList<>();
        for (Method method : tests.getDeclaredMethods()) {
            if (method.isAnnotationPresent(Says.class)) {
                found.add(method);
            }
        }
        found.sort(Comparator.comparing(Method::getName));
        return found;
    }

    static void run(Class<?> tests) {
        String place = tests.getAnnotation(Of.class).value();
        List<Method> all = of(tests);
        for (Method test : all) {
            Check.begin(place + ", \"" + test.getAnnotation(Says.class).value() + "\", " + test.getName() + ": ");
            runOne(test);
        }
        System.out.print(all.size() + " tests, ");
        Check.done();
    }

    private static void runOne(Method test) {
        try {
            test.invoke(null);
        } catch (InvocationTargetException e) {
            Check.isTrue("the test ends without " + e.getCause(), false);
        } catch (IllegalAccessException e) {
            throw new IllegalStateException(e);
        }
    }
}
