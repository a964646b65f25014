import java.util.concurrent.Callable;

/** Counts the answers that are as due, and prints those that are not. */
final class Check {
    static int passed = 0;
    static int failed = 0;
    /** The test that runs, and which of its answers it looks at. */
    private static String test = "";
    private static int answer = 0;

    private Check() {
    }

    static void open(String name) {
        test = name;
        answer = 0;
    }

    /** The answer as a text; of a call that throws the exact class of its exception. */
    static String said(Callable<?> call) {
        try {
            return String.valueOf(call.call());
        } catch (Exception thrown) {
            return thrown.getClass().getSimpleName();
        }
    }

    static void due(String what, Callable<?> call, Object want) {
        String got = said(call);
        String asked = want instanceof Class<?> kind ? kind.getSimpleName() : String.valueOf(want);
        same(what, got, asked);
    }

    static void same(String what, String got, String want) {
        answer++;
        if (got.equals(want)) {
            passed++;
        } else {
            fail(what + " answered " + got + ", due is " + want);
        }
    }

    static void fail(String told) {
        failed++;
        if (failed <= 40) {
            System.out.println(test + (test.isEmpty() ? "" : " (answer " + answer + ")") + told);
        }
    }

    /** Prints the count and ends with 1 if an answer was not as due. */
    static void tell() {
        System.out.println(passed + " passed, " + failed + " failed");
        System.exit(failed == 0 ? 0 : 1);
    }
}
