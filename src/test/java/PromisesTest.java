import java.lang.reflect.InvocationTargetException;
import java.lang.reflect.Method;
import java.lang.reflect.Modifier;
import java.util.TreeMap;

/** Runs the tests of promises 1 to 48, which stand in the classes Promise01 to Promise48; or of those that are named. */
public final class PromisesTest {
    private static final int PROMISES = 48;

    private PromisesTest() {
    }

    public static void main(String[] args) {
        for (int n = 1; n <= PROMISES; n++) {
            String name = (n < 10 ? "Promise0" : "Promise") + n;
            if (args.length == 0 || java.util.Arrays.asList(args).contains(name)) {
                runAll(name);
            }
        }
        Check.tell();
    }

    private static void runAll(String name) {
        Check.open(name);
        TreeMap<String, Method> tests = new TreeMap<>();
        try {
            for (Method method : Class.forName(name).getDeclaredMethods()) {
                if (Modifier.isStatic(method.getModifiers()) && method.getName().startsWith("promise")) {
                    tests.put(method.getName(), method);
                }
            }
        } catch (ClassNotFoundException none) {
            Check.fail(" is missing");
        }
        if (tests.isEmpty()) {
            Check.fail(" has no test");
        }
        tests.forEach(PromisesTest::run);
    }

    private static void run(String name, Method test) {
        Check.open(name);
        try {
            test.invoke(null);
        } catch (InvocationTargetException thrown) {
            Check.fail(" threw " + thrown.getCause());
        } catch (IllegalAccessException closed) {
            Check.fail(" cannot be called");
        }
    }
}
