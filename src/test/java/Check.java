import java.util.concurrent.Callable;

/** Counts the answers that are as due, and prints those that are not. */
final class Check {
    static int passed = 0;
    static int failed = 0;

    private Check() {
    }

    /** The answer as a text; of a call that throws the exact class of its exception. */
    static String said(Callable<?> call) {
        try {
            return String.valueOf(call.call());
        } catch (Exception thrown) {
            return thrown.getClass().getSimpleName();
        }
    }

    static void due(String what, Callable<?> call, Object want) {
        String got = said(call);
        String asked = want instanceof Class<?> kind ? kind.getSimpleName() : String.valueOf(want);
        same(what, got, asked);
    }

    static void same(String what, String got, String want) {
        if (got.equals(want)) {
            passed++;
        } else {
            failed++;
            if (failed <= 40) {
                System.out.println(what + " answered " + got + ", due is " + want);
            }
        }
    }

    /** Prints the count and ends with 1 if an answer was not as due. */
    static void tell() {
        System.out.println(passed + " passed, " + failed + " failed");
        System.exit(failed == 0 ? 0 : 1);
    }
}
