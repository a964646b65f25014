/** rests: RESTS, as bits. */
final class Promise35 extends Promise {
    // Writing and working he has 2, the merger DEBT by 4; writing else SIZE less entries of the TABLE, the merger
    // 0 less RUNS of LEVEL 0; waiting and working 0, the merger 1; else 0 less 1, the merger 2.
    static void promise35_ofANewOne() {
        // (2,0) (4,0) (0,1) (-1,2): writing and working, and writing and not.
        is(new RunLedger().rests(), 1 | 2);
    }

    // The merger has less by not working, if LEVEL 0 has RUNS.
    static void promise35_runsOfLevelZero() {
        // (2,0) (4,-1) (0,1) (-1,2).
        is(of("run level 0 of 1 1").x.rests(), 1);
        // RUNS of other LEVELS are none of these.
        is(of("run level 1 of 1 1; run level 3 of 2 2").x.rests(), 1 | 2);
    }

    // DEBT by 4, rounded down: 3 are none, 4 are one.
    static void promise35_debtByFour() {
        // LEVEL 3 with a DEBT of 3: (2,0) (4,0); of 4: (2,1) (4,0).
        is(sized(1, 2).x.rests(), 1 | 2);
        is(sized(2, 2).x.rests(), 1);
        is(sized(4, 3).x.rests(), 1);
    }

    // SIZE less entries of the TABLE: what the writer has, if the merger does not work.
    static void promise35_roomOfTheTable() {
        // As many as waiting brings, -1: (2,0) (0,0) and less.
        RunLedger x = of("size 6; table 1 1 2 2 3 3 4 4 5 5").x;
        is(x.rests(), 1 | 2);
        x.tune(1, 5);
        is(x.rests(), 1 | 2);
        x.tune(1, 4);
        // (2,0) (-1,0) (0,1) (-1,2): he has no more by writing, nor by waiting.
        is(x.rests(), 1 | 2 | 8);
        x.tune(1, 3);
        // (2,0) (-2,0) (0,1) (-1,2): he has more by waiting.
        is(x.rests(), 1 | 8);
    }

    // Waiting and working is none, for the merger has more by not working.
    static void promise35_waitingAndWorking() {
        for (Desk d : new Desk[] {new Desk(), sized(9, 9), of("size 6; table 1 1 2 2 3 3 4 4 5 5; size 2")}) {
            is(d.x.rests() & 4, 0);
        }
    }

    // None but the writer's waiting, if both have more by that.
    static void promise35_bothByWaiting() {
        // (2,0) (-3,-2) (0,1) (-1,2).
        is(of("size 6; fan 4; run level 0 of 1 1; run level 0 of 2 2; table 1 1 2 2 3 3 4 4 5 5; size 2").x.rests(), 1 | 8);
    }

    // DEBT while a JOB runs.
    static void promise35_whileAJobRuns() {
        Desk d = of("fan 2; pace 3; run level 1 of 1 1 2 2 3 3; run level 1 of 4 4");
        is(d.x.rests(), 1);
        d.x.work();
        is(d.x.debt(), 1);
        is(d.x.rests(), 1 | 2);
    }
}
