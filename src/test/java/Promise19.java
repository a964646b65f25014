/** plan: PLAN is told. */
final class Promise19 extends Promise {
    // Whether that changed: tiered at first.
    static void promise19_whetherThatChanged() {
        RunLedger x = new RunLedger();
        is(x.plan(false), false);
        is(x.plan(true), true);
        is(x.count(4), 1);
        is(x.plan(true), false);
        is(x.count(4), 1);
        is(x.plan(false), true);
        is(x.count(4), 0);
    }

    // A JOB is given up by that.
    static void promise19_givesTheJobUp() {
        Desk d = of("fan 2; pace 1; tick 3; run level 0 of 1 1; run level 0 of 2 2; table 9 9");
        is(d.x.plan(true), true);
        is(d.job(), "-1 -1 -1 -1 -1");
        is(d.logged(), "3 3 1 1; 3 1 1 2");
        is(d.row(0), "1:1/0");
    }

    // Also if it is so already.
    static void promise19_alsoIfItIsSoAlready() {
        for (boolean levelled : new boolean[] {false, true}) {
            Desk d = of("fan 2; pace 1; run level 0 of 1 1; run level 0 of 2 2" + (levelled ? "; levelled" : "") + "; table 9 9");
            is(d.job(), "1 3 1 2 1");
            is(d.x.plan(levelled), false);
            is(d.job(), "-1 -1 -1 -1 -1");
            is(d.x.led(3, false), 1);
        }
    }

    // Without a JOB none is given up, and none begins.
    static void promise19_withoutAJob() {
        Desk d = of("fan 2; run level 1 of 1 1 2 2; run level 1 of 3 3");
        is(d.x.plan(true), true);
        is(d.logged(), "");
        is(d.job(), "-1 -1 -1 -1 -1");
        is(d.x.count(13), 0);
    }

    // Plans switched while a JOB runs: the next one is by the new PLAN.
    static void promise19_theNextJobIsByTheNewPlan() {
        Desk d = of("fan 2; pace 0; run level 0 of 1 1; run level 0 of 2 2; run level 1 of 3 3");
        d.x.work();
        is(d.job(), "1 3 0 0 2");
        d.x.plan(true);
        d.x.work();
        is(d.job(), "1 7 0 0 3");
        d.x.plan(false);
        d.x.work();
        is(d.job(), "1 3 0 0 2");
    }
}
