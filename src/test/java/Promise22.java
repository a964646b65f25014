/** looks: TOOK: how many of TABLE and RUNS were looked at. */
final class Promise22 extends Promise {
    // IndexOutOfBoundsException: there is no such KEY.
    static void promise22_noSuchKey() {
        for (int key : NO_KEYS) {
            Desk d = of("table 5 5; run level 0 of 1 1");
            refusesAndKeeps(d, OUT, () -> d.x.looks(key));
        }
    }

    // The one that has it as the last one.
    static void promise22_theOneThatHasIt() {
        RunLedger x = of("run level 0 of 1 10 5 20; run level 0 of 1 11 7 70; run level 2 of 7 71 9 90; table 5 21").x;
        is(x.looks(5), 1);
        is(x.looks(1), 2);
        is(x.looks(7), 3);
        is(x.looks(9), 4);
    }

    // The TABLE, if it has entries.
    static void promise22_emptyTable() {
        RunLedger x = of("run level 0 of 1 10; run level 0 of 7 70").x;
        is(x.looks(1), 1);
        is(x.looks(7), 2);
        is(x.looks(0), 2);
        x.put(0, 1);
        is(x.looks(1), 2);
        is(x.looks(0), 1);
    }

    // Of one that is removed, the one that has it so; of one that is nowhere, all.
    static void promise22_removedOrNowhere() {
        RunLedger x = of("run level 0 of 1 100; run level 0 of 1 11; run level 2 of 9 90; table 5 100").x;
        is(x.looks(5), 1);
        is(x.looks(1), 2);
        is(x.looks(8), 4);
        is(x.looks(0), 4);
        is(x.looks(59), 4);
    }

    // Nothing to look at.
    static void promise22_nothing() {
        is(new RunLedger().looks(0), 0);
        is(of("table 1 1").x.looks(2), 1);
        is(sized(1, 1, 1, 1, 1, 1, 1, 1, 1, 1, 1, 1).x.looks(5), 12);
    }
}
