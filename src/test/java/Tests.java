import java.lang.reflect.InvocationTargetException;
import java.lang.reflect.Method;
import java.util.Arrays;
import java.util.Comparator;

/** Runs the tests of a class: all its methods that are named after a promise, each one told of by its name. */
final class Tests {
    private Tests() {
    }

    static void run(Class<?> of, Due due) {
        Method[] methods = of.getDeclaredMethods();
        Arrays.sort(methods, Comparator.comparing(Method::getName));
        int ran = 0;
        for (Method test : methods) {
            if (test.getName().startsWith("promise")) {
                due.about(test.getName());
                runOne(test, due);
                ran++;
            }
        }
        System.out.println(ran + " tests");
        due.end();
    }

    private static void runOne(Method test, Due due) {
        try {
            test.invoke(null);
        } catch (InvocationTargetException thrown) {
            thrown.getCause().printStackTrace(System.out);
            due.is("a call that threw " + thrown.getCause(), 1, 0);
        } catch (IllegalAccessException barred) {
            due.is(barred.getMessage(), 1, 0);
        }
    }
}
