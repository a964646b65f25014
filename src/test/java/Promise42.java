/** led: LED: rows of THE LOG of that kind, and the TICK of the latest. */
final class Promise42 extends Promise {
    /** One row of each kind and two of the first: by TICK 1 a flush, by 2 a JOB, by 3 given up, by 4 one that ENDS, by 5 a flush. */
    private static Desk all() {
        Desk d = of("fan 2; pace 1; tick 1; table 9 9");
        d.x.flush();
        d.store("run level 3 of 1 1 2 2; run level 3 of 3 3; tick 2");
        d.x.work();
        d.store("tick 3");
        d.x.halt();
        d.store("tick 4; pace 9");
        d.x.work();
        d.store("tick 5");
        d.x.put(8, 8);
        d.x.flush();
        is(d.logged(), "5 0 0 1; 4 2 3 3; 4 1 3 3; 3 3 3 1; 2 1 3 3; 1 0 0 1");
        return d;
    }

    // NoSuchElementException: another kind (0 to 3).
    static void promise42_anotherKind() {
        for (int kind : new int[] {-1, 4, 5, LEAST, GREATEST}) {
            Desk d = of("size 2; table 1 1 2 2");
            refusesAndKeeps(d, NO_SUCH, () -> d.x.led(kind, false));
            refuses(NO_SUCH, () -> d.x.led(kind, true));
        }
    }

    // How many rows are of that kind.
    static void promise42_howManyRows() {
        Desk d = all();
        is(d.x.led(0, false), 2);
        is(d.x.led(1, false), 2);
        is(d.x.led(2, false), 1);
        is(d.x.led(3, false), 1);
    }

    // The TICK of the latest.
    static void promise42_theLatest() {
        Desk d = all();
        is(d.x.led(0, true), 5);
        is(d.x.led(1, true), 4);
        is(d.x.led(2, true), 4);
        is(d.x.led(3, true), 3);
    }

    // None.
    static void promise42_none() {
        for (int kind = 0; kind < 4; kind++) {
            is(new RunLedger().led(kind, false), 0);
            is(new RunLedger().led(kind, true), NONE);
        }
        Desk d = of("size 2; table 1 1 2 2");
        is(d.x.led(0, true), 0);
        is(d.x.led(1, true), NONE);
    }

    // Of the latest 60: what fell out of THE LOG is counted no more.
    static void promise42_ofTheLatestSixty() {
        Desk d = of("fan 2; pace 9; run level 3 of 1 1; run level 3 of 2 2; tick 7");
        d.x.plan(true);
        d.x.work();
        d.x.tune(2, 0);
        is(d.x.led(2, false), 1);
        d.x.tune(1, 6);
        d.store("run level 3 of 3 3; tick 8");
        // A JOB begins and is given up, 29 times: with the two rows before these are 60.
        for (int i = 0; i < 29; i++) {
            d.x.work();
            d.x.halt();
        }
        is(d.x.count(15), 60);
        is(d.x.led(2, false), 1);
        is(d.x.led(2, true), 7);
        is(d.x.led(1, false), 30);
        d.x.work();
        is(d.x.led(1, false), 30);
        is(d.x.led(2, false), 1);
        d.x.halt();
        is(d.x.led(1, false), 30);
        is(d.x.led(3, false), 30);
        is(d.x.led(2, false), 0);
        is(d.x.led(2, true), NONE);
        is(d.x.count(15), 60);
    }
}
