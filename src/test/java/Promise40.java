/** trial: TRIAL of N TICKS from now. */
final class Promise40 extends Promise {
    private static final String STORE = "size 2; fan 2; pace 0; run level 0 of 1 1; run level 0 of 2 2; run level 1 of 3 3";

    // IllegalArgumentException: N is none (0 to 60).
    static void promise40_noNumber() {
        for (int n : new int[] {-1, -2, 61, 62, LEAST, GREATEST}) {
            Desk d = of("table 1 1; run level 0 of 5 5");
            refusesAndKeeps(d, BAD, () -> d.x.trial(n, false));
            refuses(BAD, () -> d.x.trial(n, true));
        }
    }

    // Of 0 TICKS: BILL and COUNT as they are.
    static void promise40_ofNone() {
        is(new RunLedger().trial(0, false), 0);
        is(new RunLedger().trial(0, true), 0);
        Desk d = of(STORE);
        d.x.ticks(30);
        is(d.x.trial(0, false), d.x.count(13));
        is(d.x.trial(0, true), d.x.many());
    }

    // From now (draws, too): BILL then; COUNT then.
    static void promise40_fromNow() {
        for (int n : new int[] {1, 2, 17, 59, 60}) {
            Desk d = of(STORE).with("cost 3; pace 1 if busy and tick > 9");
            d.x.seed(99);
            d.x.ticks(5);
            int bill = d.x.trial(n, false);
            int keys = d.x.trial(n, true);
            d.x.ticks(n);
            is(bill, d.x.count(13));
            is(keys, d.x.many());
        }
    }

    // Nothing stays: SEED neither, nor an act.
    static void promise40_nothingStays() {
        Desk d = of(STORE);
        d.x.seed(99);
        d.x.ticks(5);
        d.text("ab");
        String before = d.all();
        d.x.trial(60, true);
        d.x.trial(60, false);
        is(d.all(), before);
        is(d.x.end(2), true);
    }
}
