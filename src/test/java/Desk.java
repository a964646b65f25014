/** A ledger with calls that put whole texts on its tape. */
final class Desk {
    final RunLedger x = new RunLedger();

    /** The tape has these bytes alone. */
    Desk tape(int... bytes) {
        x.end(0);
        int[] five = new int[5];
        for (int at = 0; at < bytes.length; at += 20) {
            for (int i = 0; i < 5; i++) {
                five[i] = 0;
                for (int j = 0; j < 4; j++) {
                    int from = at + 4 * i + j;
                    five[i] = five[i] << 8 | (from < bytes.length ? bytes[from] & 255 : 0);
                }
            }
            x.feed(five[0], five[1], five[2], five[3], five[4]);
        }
        x.end(bytes.length);
        return this;
    }

    Desk text(String text) {
        int[] bytes = new int[text.length()];
        for (int i = 0; i < bytes.length; i++) {
            bytes[i] = text.charAt(i);
        }
        return tape(bytes);
    }

    int store(String text) {
        return text(text).x.store();
    }

    int law(String text) {
        return text(text).x.law();
    }

    /** A desk whose store was told these texts. */
    static Desk of(String... texts) {
        Desk desk = new Desk();
        for (String text : texts) {
            desk.store(text);
        }
        return desk;
    }

    /** Of the run the keys, values and rewrites, as "key:value/rewrites". */
    String row(int run) {
        StringBuilder told = new StringBuilder();
        for (int k = 0; x.entry(run, k, 0) != RunLedger.NONE; k++) {
            told.append(k == 0 ? "" : " ").append(x.entry(run, k, 0)).append(':').append(x.entry(run, k, 1))
                    .append('/').append(x.entry(run, k, 2));
        }
        return told.toString();
    }

    /** Of the log the rows, the latest first, as "tick kind level entries". */
    String logged() {
        StringBuilder told = new StringBuilder();
        for (int ago = 0; x.log(ago, 0) != RunLedger.NONE; ago++) {
            told.append(ago == 0 ? "" : "; ").append(x.log(ago, 0)).append(' ').append(x.log(ago, 1)).append(' ')
                    .append(x.log(ago, 2)).append(' ').append(x.log(ago, 3));
        }
        return told.toString();
    }

    String counts() {
        StringBuilder told = new StringBuilder();
        for (int what = 0; what <= 16; what++) {
            told.append(what == 0 ? "" : " ").append(x.count(what));
        }
        return told.toString();
    }
}
