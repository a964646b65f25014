/** total: SUM of VALUES of those from one KEY to another one. */
final class Promise25 extends Promise {
    private static RunLedger four() {
        return of("run level 0 of 0 1 5 2 9 100; run level 0 of 5 50 9 9 59 4; table 20 8").x;
    }

    // IndexOutOfBoundsException: there is no such KEY: of the first, of the second.
    static void promise25_noSuchKey() {
        for (int key : NO_KEYS) {
            Desk d = of("table 5 5; run level 0 of 1 1");
            refuses(OUT, () -> d.x.total(key, 5));
            refuses(OUT, () -> d.x.total(5, key));
            refuses(OUT, () -> d.x.total(key, key));
            refusesAndKeeps(d, OUT, () -> d.x.total(0, key));
        }
    }

    // IllegalArgumentException: the second KEY is less.
    static void promise25_theSecondIsLess() {
        Desk d = of("table 5 5; run level 0 of 1 1");
        refusesAndKeeps(d, BAD, () -> d.x.total(5, 4));
        refuses(BAD, () -> d.x.total(59, 0));
        refuses(BAD, () -> d.x.total(1, 0));
    }

    // Of several exceptions the one told first: no such KEY ahead of a second that is less.
    static void promise25_noSuchKeyAheadOfLess() {
        refuses(OUT, () -> new RunLedger().total(60, 5));
        refuses(OUT, () -> new RunLedger().total(5, -1));
    }

    // From one KEY to another one, both with them; no less: one KEY.
    static void promise25_fromTo() {
        RunLedger x = four();
        is(x.total(0, 59), 15);
        is(x.total(0, 5), 3);
        is(x.total(0, 4), 1);
        is(x.total(1, 20), 10);
        is(x.total(5, 5), 2);
        is(x.total(59, 59), 4);
        is(x.total(0, 0), 1);
        is(x.total(21, 58), 0);
        is(x.total(21, 59), 4);
    }

    // Those that are FOUND: removed ones are none.
    static void promise25_removedOnes() {
        RunLedger x = four();
        is(x.total(9, 9), 0);
        is(x.total(6, 19), 0);
        is(new RunLedger().total(0, 59), 0);
    }
}
