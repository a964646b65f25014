/** log: THE LOG. */
final class Promise43 extends Promise {
    // NoSuchElementException: another what, also where there is no row.
    static void promise43_anotherWhat() {
        for (int what : new int[] {-1, 4, 5, LEAST, GREATEST}) {
            Desk d = of("size 2; table 1 1 2 2");
            refusesAndKeeps(d, NO_SUCH, () -> d.x.log(0, what));
            refuses(NO_SUCH, () -> d.x.log(1, what));
            refuses(NO_SUCH, () -> d.x.log(-1, what));
        }
    }

    // NONE without: as many ago as there are rows, more, below 0.
    static void promise43_without() {
        Desk d = of("size 2; table 1 1 2 2");
        for (int ago : new int[] {1, 2, 59, 60, 61, GREATEST, -1, -2, LEAST}) {
            for (int what = 0; what <= 3; what++) {
                is(d.x.log(ago, what), NONE);
            }
        }
        is(new RunLedger().log(0, 3), NONE);
    }

    // The TABLE was FLUSHED (0): TICK, 0, 0, entries of the TABLE.
    static void promise43_flushed() {
        is(of("size 3; tick 77; table 1 1 2 100 3 3").logged(), "77 0 0 3");
    }

    // A JOB began (1): the LEVEL to which it goes, entries of INPUTS.
    static void promise43_began() {
        Desk d = of("fan 2; pace 0; tick 9; run level 0 of 1 1 2 2; run level 0 of 1 1; run level 2 of 5 5 6 6; run level 2 of 5 5");
        d.x.work();
        is(d.logged(), "9 1 1 3");
        Desk e = of("fan 2; pace 0; levelled; tick 9; run level 2 of 1 1 2 2; run level 2 of 1 1; run level 3 of 5 5 6 6");
        e.x.work();
        is(e.logged(), "9 1 3 5");
    }

    // ENDED (2): the LEVEL, entries of the OUTPUT, 0 too.
    static void promise43_ended() {
        Desk d = of("fan 2; pace 9; tick 9; run level 1 of 1 1 2 2; run level 1 of 1 1");
        d.x.work();
        is(d.logged(), "9 2 2 2; 9 1 2 3");
        Desk e = of("fan 2; pace 9; run level 3 of 1 100; run level 3 of 1 1");
        e.x.work();
        is(e.logged(), "0 2 3 0; 0 1 3 2");
    }

    // Given up (3): the LEVEL, entries of the OUTPUT: by hand and by what is told.
    static void promise43_givenUp() {
        Desk d = of("fan 2; pace 1; tick 9; run level 1 of 1 1 2 2; run level 1 of 1 1");
        d.x.work();
        d.x.halt();
        is(d.logged(), "9 3 2 1; 9 1 2 3");
        d.x.tune(2, 0);
        d.x.work();
        d.x.plan(false);
        is(d.x.log(0, 1), 3);
        is(d.x.log(0, 3), 0);
    }

    // In the order in which it comes about: by one WRITE.
    static void promise43_inTheirOrder() {
        Desk d = of("size 2; pace 9; fan 2; tick 5; run level 0 of 1 1");
        d.x.put(2, 2);
        d.x.put(3, 3);
        is(d.logged(), "5 2 1 3; 5 1 1 3; 5 0 0 2");
        is(d.x.log(0, 1), 2);
        is(d.x.log(2, 1), 0);
    }

    // The latest 60 times: 60 rows, and no more.
    static void promise43_sixtyRows() {
        Desk d = of("fan 2; pace 0; run level 3 of 1 1; run level 3 of 2 2; tick 1");
        d.x.work();
        d.store("tick 2");
        d.x.halt();
        d.store("tick 3");
        for (int i = 0; i < 29; i++) {
            d.x.work();
            d.x.halt();
        }
        is(d.x.count(15), 60);
        is(d.x.log(59, 0), 1);
        is(d.x.log(59, 1), 1);
        is(d.x.log(58, 0), 2);
        is(d.x.log(60, 0), NONE);
        d.store("tick 4");
        d.x.work();
        is(d.x.count(15), 60);
        is(d.x.log(0, 0), 4);
        is(d.x.log(0, 1), 1);
        is(d.x.log(1, 0), 3);
        is(d.x.log(59, 0), 2);
        is(d.x.log(59, 1), 3);
        is(d.x.log(60, 0), NONE);
        d.x.halt();
        is(d.x.log(59, 0), 3);
        is(d.x.log(59, 1), 1);
        is(d.x.log(0, 1), 3);
        is(d.x.log(1, 1), 1);
    }
}
