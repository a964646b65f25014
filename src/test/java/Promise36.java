/** odds: ODDS of N TICKS. */
final class Promise36 extends Promise {
    // IllegalArgumentException: N is none (0 to 5).
    static void promise36_noNumber() {
        for (int n : new int[] {-1, -2, 6, 7, 60, LEAST, GREATEST}) {
            Desk d = of("table 1 1; run level 0 of 5 5");
            refusesAndKeeps(d, BAD, () -> d.x.odds(n));
        }
    }

    // Of no TICKS nothing is met.
    static void promise36_noTicks() {
        is(new RunLedger().odds(0), 0);
        is(sized(20).x.odds(0), 0);
    }

    // In ten thousandths, rounded down: 15 of 60.
    static void promise36_fifteenOfSixty() {
        Desk d = sized(15);
        is(d.x.odds(1), 2500);
        is(d.x.odds(2), 4375);
        is(d.x.odds(3), 5781);
        is(d.x.odds(4), 6835);
        is(d.x.odds(5), 7626);
    }

    // One of 60; 59 of 60.
    static void promise36_oneOfSixty() {
        Desk d = sized(1);
        is(d.x.odds(1), 166);
        is(d.x.odds(2), 330);
        is(d.x.odds(5), 806);
    }

    // Nothing is FOUND: 0; removed ones are not.
    static void promise36_nothingIsFound() {
        is(new RunLedger().odds(5), 0);
        is(of("run level 0 of 1 100; table 2 100").x.odds(5), 0);
    }

    // All 60 are FOUND: 10000; 59 are nearly so.
    static void promise36_allAreFound() {
        Desk d = of("run level 3 of " + row(0, 20), "run level 3 of " + row(20, 20), "run level 3 of " + row(40, 20));
        is(d.x.odds(0), 0);
        is(d.x.odds(1), 10000);
        is(d.x.odds(5), 10000);
        d.x.remove(7);
        is(d.x.odds(1), 9833);
        is(d.x.odds(2), 9997);
        is(d.x.odds(5), 9999);
    }
}
