/** A ledger with calls that put whole texts on its tape, and that tell much of it at once. */
final class Desk {
    private static final int TAPE = 400;

    final RunLedger x = new RunLedger();

    /** The tape has these bytes alone. */
    Desk tape(int... bytes) {
        if (bytes.length > TAPE) {
            throw new IllegalArgumentException("a test's text is longer than the tape");
        }
        x.end(0);
        int[] five = new int[5];
        for (int at = 0; at < bytes.length; at += 20) {
            for (int i = 0; i < 5; i++) {
                five[i] = 0;
                for (int j = 0; j < 4; j++) {
                    int from = at + 4 * i + j;
                    five[i] = five[i] << 8 | (from < bytes.length ? bytes[from] & 255 : 0);
                }
            }
            x.feed(five[0], five[1], five[2], five[3], five[4]);
        }
        x.end(bytes.length);
        return this;
    }

    Desk text(String text) {
        int[] bytes = new int[text.length()];
        for (int i = 0; i < bytes.length; i++) {
            bytes[i] = text.charAt(i);
        }
        return tape(bytes);
    }

    int store(String text) {
        return text(text).x.store();
    }

    int law(String text) {
        return text(text).x.law();
    }

    /** A desk whose store was told these texts. */
    static Desk of(String... texts) {
        Desk desk = new Desk();
        for (String text : texts) {
            desk.store(text);
        }
        return desk;
    }

    Desk with(String law) {
        law(law);
        return this;
    }

    /** Of the run the keys, values and rewrites, as "key:value/rewrites". */
    String row(int run) {
        StringBuilder told = new StringBuilder();
        for (int k = 0; x.entry(run, k, 0) != RunLedger.NONE; k++) {
            told.append(k == 0 ? "" : " ").append(x.entry(run, k, 0)).append(':').append(x.entry(run, k, 1))
                    .append('/').append(x.entry(run, k, 2));
        }
        return told.toString();
    }

    /** Of the log the rows, the latest first, as "tick kind level entries". */
    String logged() {
        StringBuilder told = new StringBuilder();
        for (int ago = 0; x.log(ago, 0) != RunLedger.NONE; ago++) {
            told.append(ago == 0 ? "" : "; ").append(x.log(ago, 0)).append(' ').append(x.log(ago, 1)).append(' ')
                    .append(x.log(ago, 2)).append(' ').append(x.log(ago, 3));
        }
        return told.toString();
    }

    String counts() {
        StringBuilder told = new StringBuilder();
        for (int what = 0; what <= 16; what++) {
            told.append(what == 0 ? "" : " ").append(x.count(what));
        }
        return told.toString();
    }

    /** Of the job the level, inputs, entries of the output, at and left. */
    String job() {
        StringBuilder told = new StringBuilder();
        for (int what = 0; what <= 4; what++) {
            told.append(what == 0 ? "" : " ").append(x.job(what));
        }
        return told.toString();
    }

    /** Of the runs the levels, newest first. */
    String levels() {
        StringBuilder told = new StringBuilder();
        for (int run = 0; run < x.count(0); run++) {
            told.append(run == 0 ? "" : " ").append(x.run(run, 0));
        }
        return told.toString();
    }

    /** All that going back and undoing bring back, but for the log and how many acts can be undone. */
    String state() {
        StringBuilder told = new StringBuilder();
        for (int what = 0; what <= 15; what++) {
            told.append(x.count(what)).append(' ');
        }
        for (int run = -1; run < x.count(0); run++) {
            told.append("| ").append(run < 0 ? "table" : String.valueOf(x.run(run, 0))).append(' ').append(row(run));
        }
        told.append("| job ").append(job()).append(' ').append(row(99));
        int seed = x.seed(0);
        x.seed(seed);
        told.append("| seed ").append(seed).append(" slice ").append(x.slice()).append(" levels");
        for (int level = 0; level < 4; level++) {
            for (int what = 0; what < 4; what++) {
                told.append(' ').append(x.level(level, what));
            }
        }
        return told.toString();
    }

    /** All that can be asked but for the tape: the state, the log, the fault and how many acts can be undone. */
    String all() {
        return state() + "| log " + logged() + "| fault " + x.fault() + " acts " + x.count(16);
    }
}
