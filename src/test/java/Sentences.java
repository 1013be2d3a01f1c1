import java.lang.reflect.InvocationTargetException;
import java.lang.reflect.Method;
import java.util.Arrays;
import java.util.Comparator;

/** Runs each test that is for a sentence of the document; none can be forgotten in a list. */
final class Sentences {
    private Sentences() {
    }

    static void run(Object tests, Checks checks) {
        Method[] methods = tests.getClass().getDeclaredMethods();
        Arrays.sort(methods, Comparator.comparing(Method::getName));
        for (Method method : methods) {
            Says says = method.getAnnotation(Says.class);
            if (says != null) {
                checks.begin(method.getName() + " (\"" + says.value() + "\")");
                call(tests, method);
            }
        }
        checks.end();
    }

    private static void call(Object tests, Method method) {
        try {
            method.invoke(tests);
        } catch (IllegalAccessException e) {
            throw new IllegalStateException(e);
        } catch (InvocationTargetException e) {
            throw new IllegalStateException(method.getName(), e.getCause());
        }
    }
}
