/** halt: the JOB is given up. */
final class Promise17 extends Promise {
    private static Desk busy() {
        return of("fan 2; pace 2; tick 7; run level 0 of 1 1 2 2 5 5; run level 0 of 3 3; run level 1 of 9 9; table 40 1");
    }

    // IllegalStateException: there is none.
    static void promise17_noJob() {
        refuses(STATE, () -> new RunLedger().halt());
        Desk d = of("fan 2; run level 0 of 1 1; run level 0 of 2 2");
        refusesAndKeeps(d, STATE, () -> d.x.halt());
    }

    // Behind a JOB that was given up, or has ended, there is none.
    static void promise17_noJobAnyMore() {
        Desk d = busy();
        d.x.halt();
        refusesAndKeeps(d, STATE, () -> d.x.halt());
        Desk e = busy();
        e.x.work();
        is(e.job(), "-1 -1 -1 -1 -1");
        refuses(STATE, () -> e.x.halt());
    }

    // How many entries the OUTPUT had: also none.
    static void promise17_howManyEntries() {
        is(busy().x.halt(), 2);
        Desk d = of("fan 2; pace 0; run level 0 of 1 1; run level 0 of 3 3; table 40 1");
        is(d.job(), "1 3 0 0 2");
        is(d.x.halt(), 0);
        // Two KEYS were done, one of which went nowhere.
        Desk e = of("fan 2; pace 2; run level 0 of 1 100 2 2 3 3; run level 0 of 1 1; table 40 1");
        is(e.x.halt(), 1);
    }

    // A JOB given up: OUTPUT is nothing, INPUTS stay as they are.
    static void promise17_inputsStay() {
        Desk d = busy();
        is(d.row(99), "1:1/1 2:2/1");
        d.x.halt();
        is(d.row(99), "");
        is(d.job(), "-1 -1 -1 -1 -1");
        is(d.row(0), "1:1/0 2:2/0 5:5/0");
        is(d.row(1), "3:3/0");
        is(d.levels(), "0 0 1");
        is(d.x.run(0, 3), 0);
        is(d.x.run(1, 3), 0);
        is(d.x.debt(), 4);
    }

    // What was READ, WRITTEN and paid stays.
    static void promise17_whatWasPaidStays() {
        Desk d = busy();
        String paid = d.x.count(8) + " " + d.x.count(9) + " " + d.x.count(13);
        is(paid, "2 2 1");
        d.x.halt();
        is(d.x.count(8) + " " + d.x.count(9) + " " + d.x.count(13), paid);
    }

    // THE LOG: given up (3), the LEVEL to which it goes, entries of the OUTPUT.
    static void promise17_log() {
        Desk d = busy();
        d.x.halt();
        is(d.logged(), "7 3 1 2; 7 1 1 4");
    }

    // Another JOB begins anew: no OUTPUT, AT 0.
    static void promise17_beginsAnew() {
        Desk d = busy();
        d.x.halt();
        d.x.tune(2, 0);
        d.x.work();
        is(d.job(), "1 3 0 0 4");
        is(d.row(99), "");
    }
}
