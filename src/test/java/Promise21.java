/** get: FOUND of a KEY. */
final class Promise21 extends Promise {
    // IndexOutOfBoundsException: there is no such KEY.
    static void promise21_noSuchKey() {
        for (int key : NO_KEYS) {
            Desk d = of("table 5 5; run level 0 of 1 1");
            refusesAndKeeps(d, OUT, () -> d.x.get(key));
        }
    }

    // The VALUE that the newest has: the TABLE, then RUNS.
    static void promise21_theNewest() {
        RunLedger x = of("run level 0 of 1 10 5 20; run level 0 of 1 11 7 70; run level 2 of 1 12 7 71 9 90; table 5 21").x;
        is(x.get(5), 21);
        is(x.get(1), 10);
        is(x.get(7), 70);
        is(x.get(9), 90);
    }

    // None: it is nowhere.
    static void promise21_nowhere() {
        is(new RunLedger().get(0), NONE);
        is(of("run level 0 of 1 1; table 2 2").x.get(3), NONE);
    }

    // None: it is removed, by the TABLE or by a RUN, though an older one has it.
    static void promise21_removed() {
        RunLedger x = of("run level 0 of 1 100; run level 0 of 1 11 2 22; table 2 100").x;
        is(x.get(1), NONE);
        is(x.get(2), NONE);
    }

    // Removed in an older one alone: the newest has it.
    static void promise21_putAgain() {
        RunLedger x = of("run level 0 of 1 7; run level 0 of 1 100 2 100; table 2 5").x;
        is(x.get(1), 7);
        is(x.get(2), 5);
    }

    // A VALUE of 0 and of 99, the KEYS 0 and 59.
    static void promise21_leastAndGreatest() {
        RunLedger x = of("run level 0 of 0 0 59 99").x;
        is(x.get(0), 0);
        is(x.get(59), 99);
    }

    // The OUTPUT of a JOB is not asked: INPUTS still are.
    static void promise21_whileAJobRuns() {
        Desk d = of("fan 2; pace 1; run level 0 of 1 1 2 2; run level 0 of 3 3");
        d.x.work();
        is(d.x.get(1), 1);
        is(d.x.get(3), 3);
        d.x.put(3, 9);
        is(d.x.get(3), 9);
    }
}
