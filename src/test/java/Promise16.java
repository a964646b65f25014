/** work: a slice by hand, and what a slice does. */
final class Promise16 extends Promise {
    // IllegalStateException: there is no JOB, and none may begin.
    static void promise16_noJobAndNoneMayBegin() {
        refuses(STATE, () -> new RunLedger().work());
        Desk d = of("pace 9; run level 0 of 1 1; run level 0 of 2 2; run level 1 of 3 3; table 9 9").with("cost 3");
        refusesAndKeeps(d, STATE, () -> d.x.work());
    }

    // Behind a JOB that has ended, if nothing is DUE.
    static void promise16_noneMayBeginAnyMore() {
        Desk d = of("fan 2; pace 9; run level 0 of 1 1; run level 0 of 2 2");
        is(d.x.work(), 2);
        refusesAndKeeps(d, STATE, () -> d.x.work());
    }

    // A JOB begins ahead of it, if it may; how many KEYS were done: N of them.
    static void promise16_keysDone() {
        Desk d = of("fan 2; pace 2; run level 0 of 1 1 2 2 3 3; run level 0 of 1 5 3 5 4 4");
        is(d.x.work(), 2);
        is(d.row(99), "1:1/1 2:2/1");
        is(d.job(), "1 3 2 3 3");
        is(d.logged(), "0 1 1 6");
    }

    // Till no KEY from AT on is left: fewer than N; the JOB ENDS.
    static void promise16_tillNoKeyIsLeft() {
        Desk d = of("fan 2; pace 9; run level 0 of 1 1 2 2 3 3; run level 0 of 1 5 3 5 4 4");
        is(d.x.work(), 4);
        is(d.job(), "-1 -1 -1 -1 -1");
        is(d.logged(), "0 2 1 4; 0 1 1 6");
        // As many as N, and no more: it ENDS by the last one.
        Desk e = of("fan 2; pace 4; run level 0 of 1 1 2 2; run level 0 of 3 3 4 4");
        is(e.x.work(), 4);
        is(e.x.count(0), 1);
        // One fewer than there are.
        Desk f = of("fan 2; pace 3; run level 0 of 1 1 2 2; run level 0 of 3 3 4 4");
        is(f.x.work(), 3);
        is(f.x.count(0), 2);
        is(f.x.work(), 1);
        is(f.x.count(0), 1);
    }

    // A slice of none: the JOB begins, no KEY is done, BILL is COST of it more.
    static void promise16_aSliceOfNone() {
        Desk d = of("fan 2; pace 0; run level 0 of 4 4; run level 0 of 5 5").with("cost 6");
        is(d.x.work(), 0);
        is(d.job(), "1 3 0 0 2");
        is(d.x.count(13), 7);
        is(d.x.work(), 0);
        is(d.x.count(13), 14);
        is(d.x.led(1, false), 1);
    }

    // BILL is COST of it more: by all as it is ahead of it, when the JOB has begun.
    static void promise16_costAheadOfTheSlice() {
        Desk d = of("fan 2; pace 2; run level 0 of 4 4; run level 0 of 5 5; run level 1 of 9 9")
                .with("cost 2 if busy; cost 4 if level > 0; cost 8 if debt > 1; cost 16 if runs < 2; cost 32 if runs > 1");
        is(d.x.work(), 2);
        is(d.x.count(13), 1 + 2 + 4 + 8 + 16);
    }

    // The least KEY from AT on of INPUTS: KEY by KEY, whichever RUN has it; all entries of that KEY are READ.
    static void promise16_readAllOfThatKey() {
        Desk d = of("fan 3; pace 1; run level 0 of 7 1 9 1; run level 0 of 0 2 7 2; run level 0 of 7 3 59 3");
        d.x.work();
        is(d.row(99), "0:2/1");
        is(d.x.count(8), 1);
        is(d.x.count(9), 1);
        d.x.work();
        is(d.row(99), "0:2/1 7:1/1");
        is(d.x.count(8), 4);
        is(d.x.count(9), 2);
        d.x.work();
        is(d.x.count(8), 5);
        is(d.x.work(), 1);
        is(d.row(0), "0:2/1 7:1/1 9:1/1 59:3/1");
        is(d.x.count(8), 6);
        is(d.x.count(9), 4);
    }

    // The one of the newest of these RUNS goes to the OUTPUT.
    static void promise16_theNewestGoesOn() {
        Desk d = of("fan 2; pace 9; run level 0 of 1 100 2 20; run level 0 of 1 11 2 100 3 30; run level 1 of 1 5 2 5 3 5");
        d.x.work();
        is(d.row(0), "1:100/1 2:20/1 3:30/1");
        is(d.x.count(8), 5);
        is(d.x.count(9), 3);
    }

    // If it is removed and no RUN that is older than all INPUTS has that KEY: then it goes nowhere.
    static void promise16_removedGoesNowhere() {
        Desk d = of("fan 2; pace 9; run level 0 of 1 100 2 20; run level 0 of 1 11 3 100; run level 1 of 5 5");
        is(d.x.work(), 3);
        is(d.row(0), "2:20/1");
        is(d.x.count(8), 4);
        is(d.x.count(9), 1);
        is(d.logged(), "0 2 1 1; 0 1 1 4");
    }

    // But if a RUN that is older than all INPUTS has that KEY, it goes on: also where that is removed itself.
    static void promise16_removedGoesOn() {
        Desk d = of("fan 2; pace 9; run level 0 of 1 100 2 100; run level 0 of 3 100; run level 1 of 2 100; run level 3 of 1 7");
        is(d.x.work(), 3);
        is(d.row(0), "1:100/1 2:100/1");
        is(d.x.count(9), 2);
    }

    // Older than all INPUTS: a newer RUN and the TABLE that have the KEY keep nothing.
    static void promise16_newerOnesKeepNothing() {
        Desk d = of("table 4 7; fan 2; pace 9; run level 0 of 4 4; run level 1 of 4 100; run level 1 of 4 3 5 5");
        d.x.work();
        is(d.levels(), "0 2");
        is(d.row(1), "5:5/1");
    }

    // The newest of these RUNS: one that is newer, but no INPUT, is not asked.
    static void promise16_inputsAlone() {
        Desk d = of("fan 2; pace 9; run level 0 of 4 4; run level 1 of 4 5; run level 1 of 4 6; run level 2 of 4 7");
        d.x.work();
        is(d.row(0), "4:4/0");
        is(d.row(1), "4:5/1");
        is(d.row(2), "4:7/0");
        is(d.x.count(8), 2);
    }

    // REWRITES 1 more: of the newest one's.
    static void promise16_rewrites() {
        Desk d = of("fan 2; pace 9; run level 1 of 1 1; run level 1 of 2 2");
        d.x.work();
        is(d.row(0), "1:1/1 2:2/1");
        d.store("run level 2 of 2 7 3 3");
        d.x.work();
        is(d.row(0), "1:1/2 2:2/2 3:3/1");
        is(d.levels(), "3");
    }

    // INPUTS go, the OUTPUT is a RUN of its LEVEL in the place of the oldest of INPUTS.
    static void promise16_inThePlaceOfTheOldest() {
        Desk d = of("fan 2; pace 1; size 2; run level 0 of 1 1; run level 0 of 2 2; run level 1 of 8 8; run level 3 of 9 9");
        d.x.work();
        d.x.put(40, 1);
        is(d.levels(), "1 1 3");
        is(d.row(0), "1:1/1 2:2/1");
        Desk e = of("fan 2; pace 0; size 2; run level 0 of 1 1; run level 0 of 2 2; run level 1 of 8 8; run level 3 of 9 9; table 40 1 41 1");
        is(e.levels(), "0 0 0 1 3");
        e.x.tune(2, 2);
        is(e.x.work(), 2);
        is(e.levels(), "0 1 1 3");
        is(e.row(0), "40:1/0 41:1/0");
        is(e.row(1), "1:1/1 2:2/1");
        is(e.row(2), "8:8/0");
    }

    // Levelled: the oldest of INPUTS is of the LEVEL behind.
    static void promise16_inThePlaceOfTheOldestOfTwoLevels() {
        Desk d = of("levelled; fan 2; pace 9; run level 0 of 1 1; run level 0 of 2 2; run level 1 of 2 3 8 8; run level 2 of 9 9");
        is(d.x.work(), 3);
        is(d.levels(), "1 2");
        is(d.row(0), "1:1/1 2:2/1 8:8/1");
    }

    // Without entries no RUN.
    static void promise16_withoutEntriesNoRun() {
        Desk d = of("fan 2; pace 9; run level 0 of 4 100; run level 0 of 4 7; tick 12");
        is(d.x.work(), 1);
        is(d.x.count(0), 0);
        is(d.logged(), "12 2 1 0; 12 1 1 2");
        is(d.x.count(9), 0);
        is(d.x.count(8), 2);
        Desk e = of("fan 2; pace 9; run level 0 of 1 1; run level 1 of 4 100; run level 1 of 4 7; run level 3 of 9 9");
        e.x.work();
        is(e.levels(), "0 3");
    }

    // A slice goes on with the KEYS behind AT: what a newer RUN brings is no part of it.
    static void promise16_newRunsAreNoInputs() {
        Desk d = of("fan 2; pace 1; size 2; run level 0 of 10 1 20 1 30 1; run level 0 of 10 2 40 1; table 50 1");
        is(d.job(), "1 3 1 11 3");
        d.x.put(25, 9);
        is(d.job(), "1 6 2 21 2");
        d.x.tune(2, 9);
        is(d.x.work(), 2);
        is(d.row(0), "25:9/0 50:1/0");
        is(d.row(1), "10:1/1 20:1/1 30:1/1 40:1/1");
    }

    // KEYS 0 and 59 are done as any; AT behind 59 is never asked, for the JOB has ended.
    static void promise16_leastAndGreatestKey() {
        Desk d = of("fan 2; pace 1; run level 0 of 0 1; run level 0 of 59 2");
        d.x.work();
        is(d.job(), "1 3 1 1 1");
        is(d.x.work(), 1);
        is(d.row(0), "0:1/1 59:2/1");
    }

    // REWRITES 99 at most.
    static void promise16_rewritesAtMost() {
        // Each text flushes eighteen RUNS of LEVEL 0, that two by two are merged with that of LEVEL 1, in which 59 stays.
        String text = times(6, "table " + times(6, "1 1 2 2", " "), ";");
        Desk d = of("levelled; fan 2; size 2; pace 9; run level 1 of 59 5");
        int most = 0;
        for (int i = 0; i < 11 && most < 99; i++) {
            d.store(text);
            is(d.levels(), "1");
            is(d.x.run(0, 2) > most, true);
            most = d.x.run(0, 2);
        }
        is(most, 99);
        is(d.row(0), "1:1/1 2:2/1 59:5/99");
        d.x.put(1, 1);
        d.x.put(2, 2);
        d.x.put(1, 1);
        d.x.put(2, 2);
        is(d.row(0), "1:1/1 2:2/1 59:5/99");
        is(d.x.run(0, 2), 99);
    }

    // READS and WRITES 99999 at most.
    static void promise16_readsAndWritesAtMost() {
        Desk d = of("levelled; size 2; fan 2; pace 0");
        for (int i = 0; i < 160; i++) {
            d.x.ticks(60);
        }
        int reads = d.x.count(8);
        int writes = d.x.count(9);
        is(writes < reads && reads < 99999, true);
        for (int i = 0; i < 40; i++) {
            d.x.ticks(60);
        }
        is(d.x.count(8), 99999);
        is(d.x.count(9), 99999);
        is(d.x.over(true), 9999900 / 12000);
    }
}
