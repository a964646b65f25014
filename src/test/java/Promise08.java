/** entry: of the k-th entry of a RUN, the TABLE or the OUTPUT. */
final class Promise08 extends Promise {
    // 0 the KEY, 1 VALUE or 100, 2 REWRITES, the keys rising: of a RUN.
    static void promise08_ofARun() {
        Desk d = of("run level 0 of 0 10 5 100 59 0; run level 1 of 3 99");
        is(d.x.entry(0, 0, 0), 0);
        is(d.x.entry(0, 0, 1), 10);
        is(d.x.entry(0, 1, 0), 5);
        is(d.x.entry(0, 1, 1), 100);
        is(d.x.entry(0, 2, 0), 59);
        is(d.x.entry(0, 2, 1), 0);
        is(d.x.entry(0, 2, 2), 0);
        is(d.x.entry(1, 0, 0), 3);
        is(d.x.entry(1, 0, 1), 99);
    }

    // Run NONE: of the TABLE; REWRITES 0 in it.
    static void promise08_ofTheTable() {
        Desk d = of("table 40 21 8 100");
        is(d.x.entry(NONE, 0, 0), 8);
        is(d.x.entry(NONE, 0, 1), 100);
        is(d.x.entry(NONE, 0, 2), 0);
        is(d.x.entry(NONE, 1, 0), 40);
        is(d.x.entry(NONE, 1, 1), 21);
        is(d.x.entry(NONE, 2, 0), NONE);
        is(new RunLedger().entry(NONE, 0, 1), NONE);
    }

    // Run 99: of the OUTPUT.
    static void promise08_ofTheOutput() {
        Desk d = of("fan 2; pace 2; run level 0 of 1 10 5 100; run level 0 of 5 20 7 70; run level 1 of 5 3");
        d.x.work();
        is(d.x.entry(99, 0, 0), 1);
        is(d.x.entry(99, 0, 1), 10);
        is(d.x.entry(99, 0, 2), 1);
        is(d.x.entry(99, 1, 0), 5);
        is(d.x.entry(99, 1, 1), 100);
        is(d.x.entry(99, 1, 2), 1);
        is(d.x.entry(99, 2, 0), NONE);
        is(d.row(0), "1:10/0 5:100/0");
    }

    // Run 99 without a JOB, and of a JOB without OUTPUT: NONE.
    static void promise08_noOutput() {
        Desk d = of("fan 2; pace 0; run level 0 of 1 10; run level 0 of 5 20");
        for (int what = 0; what <= 2; what++) {
            is(d.x.entry(99, 0, what), NONE);
        }
        d.x.work();
        is(d.job(), "1 3 0 0 2");
        is(d.x.entry(99, 0, 0), NONE);
        d.x.tune(2, 9);
        d.x.work();
        is(d.x.count(0), 1);
        is(d.x.entry(99, 0, 0), NONE);
    }

    // NONE without: no k-th one.
    static void promise08_noSuchEntry() {
        Desk d = of("run level 0 of 1 10 5 20; table 7 7");
        for (int k : new int[] {-1, -2, 2, 3, 60, LEAST, GREATEST}) {
            for (int what = 0; what <= 2; what++) {
                is(d.x.entry(0, k, what), NONE);
                is(d.x.entry(NONE, k, what), NONE);
                is(d.x.entry(99, k, what), NONE);
            }
        }
        is(d.x.entry(0, 1, 1), 20);
    }

    // As many entries as there may be: 60.
    static void promise08_sixtyEntries() {
        Desk d = of("fan 3; pace 9;run level 0 of " + row(0, 20), "run level 0 of " + row(20, 20), "run level 0 of " + row(40, 20));
        for (int i = 0; i < 30 && d.x.count(0) > 1; i++) {
            d.x.work();
        }
        is(d.x.run(0, 1), 60);
        is(d.x.entry(0, 59, 0), 59);
        is(d.x.entry(0, 59, 2), 1);
        is(d.x.entry(0, 60, 0), NONE);
    }

    // IndexOutOfBoundsException: there is no such RUN (and it is neither NONE nor 99).
    static void promise08_noSuchRun() {
        for (int run : new int[] {-2, 1, 2, 12, 98, 100, LEAST, GREATEST}) {
            Desk d = of("run level 0 of 1 10");
            refusesAndKeeps(d, OUT, () -> d.x.entry(run, 0, 0));
        }
        refuses(OUT, () -> new RunLedger().entry(0, 0, 0));
    }

    // Of several exceptions the one told first: no such RUN ahead of another what.
    static void promise08_noSuchRunAheadOfAnotherWhat() {
        refuses(OUT, () -> of("run level 0 of 1 10").x.entry(1, 0, 3));
        refuses(OUT, () -> new RunLedger().entry(-2, -1, -1));
    }

    // NoSuchElementException: another what, also where there is no entry.
    static void promise08_anotherWhat() {
        Desk d = of("run level 0 of 1 10; table 7 7");
        for (int what : new int[] {-1, 3, 4, LEAST, GREATEST}) {
            refuses(NO_SUCH, () -> d.x.entry(0, 0, what));
            refuses(NO_SUCH, () -> d.x.entry(0, 9, what));
            refuses(NO_SUCH, () -> d.x.entry(0, -1, what));
            refuses(NO_SUCH, () -> d.x.entry(NONE, 0, what));
            refuses(NO_SUCH, () -> d.x.entry(99, 0, what));
        }
        refusesAndKeeps(d, NO_SUCH, () -> d.x.entry(0, 0, 3));
    }
}
