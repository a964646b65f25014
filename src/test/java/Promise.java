import java.util.NoSuchElementException;
import java.util.concurrent.Callable;

/**
 * What the tests of the promises share. A class PromiseNN holds promise NN: each of its static methods whose name
 * begins with promiseNN_ is the test of one sentence, which stands above it. Each object is used for at most 512 calls.
 */
abstract class Promise {
    static final Class<?> OUT = IndexOutOfBoundsException.class;
    static final Class<?> NO_SUCH = NoSuchElementException.class;
    static final Class<?> BAD = IllegalArgumentException.class;
    static final Class<?> STATE = IllegalStateException.class;
    static final Class<?> FULL = UnsupportedOperationException.class;
    static final int NONE = -1;
    static final int LEAST = Integer.MIN_VALUE;
    static final int GREATEST = Integer.MAX_VALUE;
    static final int[] NO_KEYS = {-1, 60, 61, 99, 100, LEAST, GREATEST};

    /** The answer is the one that is due. */
    static void is(Object got, Object want) {
        Check.same("", String.valueOf(got), String.valueOf(want));
    }

    /** The call throws that exception itself, none that is a kind of it. */
    static void refuses(Class<?> want, Callable<?> call) {
        Check.due("", call, want);
    }

    /** The call throws that exception, and all that can be asked is as ahead of it, the tape too. */
    static void refusesAndKeeps(Desk d, Class<?> want, Callable<?> call) {
        d.text("ab");
        String before = d.all();
        refuses(want, call);
        is(d.all(), before);
        is(d.x.end(3), false);
        is(d.x.end(2), true);
    }

    static Desk of(String... texts) {
        return Desk.of(texts);
    }

    /** A desk whose runs have so many entries, the keys from 0 on, all of level 3; none is merged without work. */
    static Desk sized(int... sizes) {
        StringBuilder all = new StringBuilder();
        Desk d = new Desk();
        for (int size : sizes) {
            String line = "run level 3 of " + row(0, size);
            if (all.length() + line.length() + 1 > 400) {
                d.store(all.toString());
                all.setLength(0);
            }
            all.append(all.length() == 0 ? "" : ";").append(line);
        }
        d.store(all.toString());
        return d;
    }

    /** So many pairs of a key and the value 1, the keys from that one on. */
    static String row(int first, int many) {
        StringBuilder text = new StringBuilder();
        for (int key = first; key < first + many; key++) {
            text.append(key == first ? "" : " ").append(key).append(" 1");
        }
        return text.toString();
    }

    /** The text so many times, one behind another with that between. */
    static String times(int many, String text, String between) {
        StringBuilder all = new StringBuilder();
        for (int i = 0; i < many; i++) {
            all.append(i == 0 ? "" : between).append(text);
        }
        return all.toString();
    }
}
