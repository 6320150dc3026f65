import java.lang.reflect.InvocationTargetException;
import java.lang.reflect.Method;
import java.util.Arrays;
import java.util.Comparator;
import java.util.List;

/** Runs the tests of a class: each method that says which words of the document it holds to. */
final class Sentences {
    private Sentences() {
    }

    static List<Method> testsOf(Class<?> tests) {
        return Arrays.stream(tests.getDeclaredMethods())
            .filter(method -> method.isAnnotationPresent(Says.class))
            .sorted(Comparator.comparing(Method::getName))
            .toList();
    }

    static void run(Class<?> tests) throws IllegalAccessException {
        for (Method test : testsOf(tests)) {
            Check.about(test.getName() + " ('" + test.getAnnotation(Says.class).words() + "')");
            int before = Check.count();
            try {
                test.invoke(null);
            } catch (InvocationTargetException e) {
                Check.same("the test ended", "by " + e.getCause(), "by itself");
            }
            Check.due("the test looked at something", Check.count() > before, true);
        }
        Check.finish(tests.getSimpleName());
    }
}
