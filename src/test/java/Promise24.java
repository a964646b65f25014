/** rank: RANK: the K-th of the KEYS that are FOUND. */
final class Promise24 extends Promise {
    private static RunLedger four() {
        return of("run level 0 of 0 0 5 5 9 100; run level 0 of 9 9 59 1; table 20 2 5 6 7 100").x;
    }

    // The K-th of these, 0 the least.
    static void promise24_theKth() {
        RunLedger x = four();
        is(x.rank(0), 0);
        is(x.rank(1), 5);
        is(x.rank(2), 20);
        is(x.rank(3), 59);
    }

    // NONE without: as many as there are, more, below 0.
    static void promise24_without() {
        RunLedger x = four();
        for (int k : new int[] {4, 5, 59, 60, GREATEST, -1, -2, LEAST}) {
            is(x.rank(k), NONE);
        }
        is(new RunLedger().rank(0), NONE);
        is(of("table 1 100").x.rank(0), NONE);
    }

    // The last of 60.
    static void promise24_ofSixty() {
        RunLedger x = of("run level 3 of " + row(0, 20), "run level 3 of " + row(20, 20), "run level 3 of " + row(40, 20)).x;
        is(x.rank(59), 59);
        is(x.rank(60), NONE);
    }
}
