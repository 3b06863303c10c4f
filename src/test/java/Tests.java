import java.lang.reflect.InvocationTargetException;
import java.lang.reflect.Method;
import java.lang.reflect.Modifier;
import java.util.Map;
import java.util.TreeMap;

/** Runs each test of a class on its own and by its name, so that a failure tells which sentence is broken. */
final class Tests {
    private Tests() {
    }

    /** A test is a static method that has one parameter, a Due. */
    static void of(Class<?> promise) {
        Map<String, Method> tests = new TreeMap<>();
        for (Method method : promise.getDeclaredMethods()) {
            Class<?>[] parameters = method.getParameterTypes();
            if (Modifier.isStatic(method.getModifiers()) && parameters.length == 1 && parameters[0] == Due.class) {
                tests.put(method.getName(), method);
            }
        }
        int asked = 0;
        int wrong = 0;
        for (Method test : tests.values()) {
            Due due = new Due(promise.getSimpleName() + "." + test.getName());
            run(test, due);
            if (due.asked() == 0) {
                due.tell("nothing was asked");
            }
            asked += due.asked();
            wrong += due.wrong();
        }
        System.out.println(promise.getSimpleName() + ": " + tests.size() + " tests, " + asked + " answers, " + wrong
            + " wrong");
        if (wrong != 0 || tests.isEmpty()) {
            System.exit(1);
        }
    }

    private static void run(Method test, Due due) {
        try {
            test.setAccessible(true);
            test.invoke(null, due);
        } catch (InvocationTargetException thrown) {
            due.tell("threw " + thrown.getCause());
        } catch (IllegalAccessException thrown) {
            due.tell("could not be run: " + thrown);
        }
    }
}
