/** flush: the TABLE is FLUSHED by hand. */
final class Promise18 extends Promise {
    // IllegalStateException: it cannot: the TABLE has no entry.
    static void promise18_emptyTable() {
        refuses(STATE, () -> new RunLedger().flush());
        Desk d = of("size 2; fan 2; run level 0 of 1 1; table 8 8 9 9");
        is(d.x.count(1), 0);
        refusesAndKeeps(d, STATE, () -> d.x.flush());
    }

    // It has an entry: one is enough, also a removed one.
    static void promise18_oneEntry() {
        Desk d = new Desk();
        d.x.remove(7);
        is(d.x.flush(), 1);
        is(d.row(0), "7:100/0");
        is(d.x.count(1), 0);
    }

    // How many entries; the newest RUN, of LEVEL 0, REWRITES 0.
    static void promise18_howManyEntries() {
        Desk d = of("size 6; tick 8; run level 0 of 1 1; run level 2 of 2 2; table 9 9 1 7 10 100");
        is(d.x.flush(), 3);
        is(d.row(0), "1:7/0 9:9/0 10:100/0");
        is(d.levels(), "0 0 2");
        is(d.row(NONE), "");
        is(d.logged(), "8 0 0 3");
    }

    // LEVEL 0 fewer than FAN and 2 RUNS: FAN and 1 it may have.
    static void promise18_fanAndOne() {
        for (int fan = 2; fan <= 4; fan++) {
            Desk d = of("fan " + fan, times(fan + 1, "run level 0 of 1 1", ";") + ";run level 1 of 2 2", "pace 0; table 9 9");
            is(d.x.flush(), 1);
            is(d.x.count(0), fan + 3);
        }
    }

    // LEVEL 0 FAN and 2 RUNS: it cannot.
    static void promise18_fanAndTwo() {
        for (int fan = 2; fan <= 4; fan++) {
            Desk d = of("fan " + fan, times(fan + 2, "run level 0 of 1 1", ";"), "pace 0; table 9 9");
            refusesAndKeeps(d, STATE, () -> d.x.flush());
        }
    }

    // FAN that is told more makes room.
    static void promise18_fanToldMore() {
        Desk d = of("fan 2", times(4, "run level 0 of 1 1", ";"), "pace 0; table 9 9");
        refuses(STATE, () -> d.x.flush());
        d.x.tune(0, 3);
        is(d.x.flush(), 1);
        is(d.x.count(0), 5);
    }

    // There are fewer than 12 RUNS: 11 there may be.
    static void promise18_elevenRuns() {
        Desk d = of("pace 0; table 9 9", times(11, "run level 3 of 1 1", ";"));
        is(d.x.flush(), 1);
        is(d.x.count(0), 12);
    }

    // There are 12 RUNS: it cannot.
    static void promise18_twelveRuns() {
        Desk d = of("pace 0; table 9 9", times(12, "run level 3 of 1 1", ";"));
        refusesAndKeeps(d, STATE, () -> d.x.flush());
    }

    // By that no JOB begins, no slice is done, and it is no WRITE.
    static void promise18_nothingElse() {
        Desk d = of("fan 2; run level 0 of 1 1; table 9 9 10 10");
        is(d.x.flush(), 2);
        is(d.x.level(0, 2), 1);
        is(d.job(), "-1 -1 -1 -1 -1");
        is(d.x.count(13), 0);
        is(d.x.count(10), 2);
        is(d.x.count(14), 0);
    }

    // A JOB goes on: the new RUN is none of INPUTS.
    static void promise18_theJobGoesOn() {
        Desk d = of("fan 2; pace 1; run level 0 of 1 1 2 2; run level 0 of 3 3; table 2 9");
        is(d.job(), "1 3 1 2 2");
        is(d.x.flush(), 1);
        is(d.job(), "1 6 1 2 2");
        is(d.x.count(8), 1);
    }
}
