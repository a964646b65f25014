/** count: what there is of each. */
final class Promise48 extends Promise {
    // NONE for another what.
    static void promise48_anotherWhat() {
        Desk d = of("table 1 1");
        for (int what : new int[] {-1, -2, 17, 18, 99, LEAST, GREATEST}) {
            is(d.x.count(what), NONE);
        }
    }

    // 0 RUNS, 1 entries of the TABLE, 2 texts of THE STORE.
    static void promise48_runsTableTexts() {
        Desk d = of("run level 0 of 1 1 2 2; run level 1 of 3 3", "size 6; table 1 1 2 100 3 3");
        is(d.x.count(0), 2);
        is(d.x.count(1), 3);
        is(d.x.count(2), 2);
    }

    // 3 LINES of THE LAW (NONE without one).
    static void promise48_linesOfTheLaw() {
        Desk d = new Desk();
        is(d.x.count(3), NONE);
        refuses(BAD, () -> d.law("pace"));
        is(d.x.count(3), NONE);
        d.law("pace 1; cost 2");
        is(d.x.count(3), 2);
        d.law("");
        is(d.x.count(3), 0);
    }

    // 4 PLAN, 5 FAN, 6 SIZE, 7 PACE.
    static void promise48_whatWasTold() {
        Desk d = of("levelled; fan 4; size 6; pace 9");
        is(d.x.count(4), 1);
        is(d.x.count(5), 4);
        is(d.x.count(6), 6);
        is(d.x.count(7), 9);
    }

    // 8 READS, 9 WRITES, 10 PUTS.
    static void promise48_readsWritesPuts() {
        Desk d = of("fan 2; pace 9; run level 0 of 1 1 2 2; run level 0 of 1 1 3 100; table 9 9 9 8");
        is(d.x.count(8), 4);
        is(d.x.count(9), 2);
        is(d.x.count(10), 2);
    }

    // 11 STALLED, 12 LONGEST, 13 BILL, 14 TICK.
    static void promise48_stalledLongestBillTick() {
        Desk d = of("size 2; pace 0; fan 2; tick 17; run level 0 of 1 1; run level 0 of 2 2; run level 0 of 3 3; run level 0 of 4 4;"
                + "table 40 1 41 1");
        is(d.x.count(11), 4);
        is(d.x.count(12), 4);
        is(d.x.count(13), 5);
        is(d.x.count(14), 17);
    }

    // 15 rows of THE LOG, 16 acts that can be UNDONE.
    static void promise48_rowsAndActs() {
        Desk d = of("size 2; table 1 1 2 2 3 3 4 4");
        is(d.x.count(15), 2);
        is(d.x.count(16), 0);
        d.x.put(1, 1);
        is(d.x.count(15), 2);
        is(d.x.count(16), 1);
    }
}
