/** over: OVER, or AGAIN. */
final class Promise26 extends Promise {
    // OVER: 0 without KEYS that are FOUND.
    static void promise26_overWithout() {
        is(new RunLedger().over(false), 0);
        is(of("run level 0 of 1 100; run level 0 of 1 1; table 2 100").x.over(false), 0);
    }

    // Entries of TABLE and RUNS by COUNT, in hundredths, rounded down: removed entries too.
    static void promise26_over() {
        is(of("table 1 1").x.over(false), 100);
        is(of("run level 0 of 1 10 5 20; run level 1 of 1 11 7 70 9 100; table 5 21").x.over(false), 200);
        is(of("run level 0 of 1 10 5 20; run level 1 of 1 11 7 70 9 100; table 5 21 6 6").x.over(false), 175);
        is(of("run level 0 of 1 1 2 2 3 3; run level 0 of 1 1").x.over(false), 133);
        is(of("run level 0 of 1 1 2 2 3 3; run level 0 of 1 1 2 2").x.over(false), 166);
    }

    // The OUTPUT of a JOB is no RUN yet.
    static void promise26_overWhileAJobRuns() {
        Desk d = of("fan 2; pace 1; run level 0 of 1 1 2 2; run level 0 of 3 3");
        d.x.work();
        is(d.x.over(false), 100);
    }

    // AGAIN: 0 without PUTS.
    static void promise26_againWithout() {
        is(new RunLedger().over(true), 0);
        Desk d = of("fan 2; pace 9; run level 0 of 1 1; run level 0 of 2 2");
        d.x.work();
        is(d.x.count(9), 2);
        is(d.x.over(true), 0);
    }

    // WRITES by PUTS, in hundredths, rounded down.
    static void promise26_again() {
        Desk d = of("fan 2; pace 9; run level 0 of 1 1; run level 0 of 2 2; table 9 9");
        is(d.x.over(true), 200);
        d.x.put(8, 8);
        is(d.x.over(true), 100);
        d.x.put(8, 8);
        is(d.x.over(true), 66);
        is(of("table 1 1").x.over(true), 0);
    }
}
