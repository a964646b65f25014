/** ahead: AHEAD by N: as so many TICKS from SEED 1 on. */
final class Promise39 extends Promise {
    private static final String STORE = "size 2; fan 2; pace 0; run level 0 of 1 1; run level 0 of 2 2; run level 1 of 3 3";

    // IllegalArgumentException: N is none (0 to 60).
    static void promise39_noNumber() {
        for (int n : new int[] {-1, -2, 61, 62, LEAST, GREATEST}) {
            Desk d = of("table 1 1; run level 0 of 5 5");
            refusesAndKeeps(d, BAD, () -> d.x.ahead(n, false));
            refuses(BAD, () -> d.x.ahead(n, true));
        }
    }

    // By 0: as it is.
    static void promise39_byNone() {
        is(new RunLedger().ahead(0, true), 0);
        is(new RunLedger().ahead(0, false), 0);
        Desk d = of(STORE);
        is(d.x.ahead(0, true), 3);
        d.x.ticks(30);
        is(d.x.ahead(0, false), d.x.count(11));
        is(d.x.count(11) > 0, true);
    }

    // As so many TICKS from SEED 1 on, whatever SEED is: STALLED, or how many RUNS.
    static void promise39_fromSeedOne() {
        for (int n : new int[] {1, 2, 17, 59, 60}) {
            Desk d = of(STORE).with("cost 3; pace 1 if busy and tick > 9");
            d.x.seed(99);
            d.x.ticks(5);
            Desk other = of(STORE).with("cost 3; pace 1 if busy and tick > 9");
            other.x.seed(99);
            other.x.ticks(5);
            other.x.seed(1);
            other.x.ticks(n);
            is(d.x.ahead(n, false), other.x.count(11));
            is(d.x.ahead(n, true), other.x.count(0));
        }
    }

    // Nothing stays: SEED neither, nor an act.
    static void promise39_nothingStays() {
        Desk d = of(STORE);
        d.x.seed(99);
        d.x.ticks(5);
        d.text("ab");
        String before = d.all();
        d.x.ahead(60, true);
        d.x.ahead(60, false);
        is(d.all(), before);
        is(d.x.end(2), true);
    }
}
