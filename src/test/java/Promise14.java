/** put: a KEY is put; what a WRITE does. */
final class Promise14 extends Promise {
    // IndexOutOfBoundsException: there is no such KEY.
    static void promise14_noSuchKey() {
        for (int key : NO_KEYS) {
            Desk d = of("size 2; table 5 5; run level 0 of 1 1");
            refusesAndKeeps(d, OUT, () -> d.x.put(key, 5));
        }
    }

    // IllegalArgumentException: the VALUE is none (0 to 99).
    static void promise14_noValue() {
        for (int value : new int[] {-1, 100, 101, LEAST, GREATEST}) {
            Desk d = of("size 2; table 5 5; run level 0 of 1 1");
            refusesAndKeeps(d, BAD, () -> d.x.put(7, value));
        }
    }

    // Of several exceptions the one told first: no such KEY ahead of a VALUE that is none.
    static void promise14_noSuchKeyAheadOfNoValue() {
        refuses(OUT, () -> new RunLedger().put(60, 100));
        refuses(OUT, () -> new RunLedger().put(-1, -1));
    }

    // The least and the greatest KEY and VALUE.
    static void promise14_leastAndGreatest() {
        Desk d = new Desk();
        is(d.x.put(0, 99), 0);
        is(d.x.put(59, 0), 0);
        is(d.row(NONE), "0:99/0 59:0/0");
    }

    // (a) the TABLE has the entry, KEYS rising; PUTS is 1 more.
    static void promise14_theTableHasIt() {
        Desk d = of("size 6");
        for (int key : new int[] {50, 3, 40, 7}) {
            is(d.x.put(key, key + 1), 0);
        }
        is(d.row(NONE), "3:4/0 7:8/0 40:41/0 50:51/0");
        is(d.x.count(10), 4);
        is(d.x.count(14), 0);
    }

    // (a) in place of that of its KEY: it is no entry more; PUTS is 1 more by it, too.
    static void promise14_inPlaceOfThatOfItsKey() {
        Desk d = of("size 2");
        for (int i = 1; i <= 5; i++) {
            d.x.put(7, i);
        }
        is(d.row(NONE), "7:5/0");
        is(d.x.count(10), 5);
        d.x.remove(7);
        is(d.row(NONE), "7:100/0");
        d.x.put(7, 3);
        is(d.row(NONE), "7:3/0");
        is(d.x.count(0), 0);
    }

    // (b) if the TABLE has SIZE entries at least: FLUSHED: not ahead of that, of each SIZE.
    static void promise14_flushedBySize() {
        for (int size = 2; size <= 6; size++) {
            Desk d = of("size " + size);
            for (int key = 1; key < size; key++) {
                d.x.put(key, 1);
            }
            is(d.x.count(1), size - 1);
            is(d.x.count(0), 0);
            is(d.x.put(58, 1), 0);
            is(d.x.count(1), 0);
            is(d.x.count(0), 1);
            is(d.x.run(0, 1), size);
            is(d.logged(), "0 0 0 " + size);
        }
    }

    // (b) SIZE entries at least: more of them, if SIZE was told lower; by a KEY that the TABLE has, too.
    static void promise14_flushedAboveSize() {
        Desk d = of("size 6; table 1 1 2 2 3 3 4 4 5 5; size 2");
        is(d.x.count(1), 5);
        d.x.put(3, 7);
        is(d.row(0), "1:1/0 2:2/0 3:7/0 4:4/0 5:5/0");
        is(d.x.count(1), 0);
    }

    // FLUSHED: the TABLE is the newest RUN, of LEVEL 0, REWRITES 0, and the TABLE is empty.
    static void promise14_theNewestRun() {
        Desk d = of("size 2; run level 0 of 1 1; run level 2 of 2 2; table 3 3");
        d.x.put(1, 9);
        is(d.row(0), "1:9/0 3:3/0");
        is(d.levels(), "0 0 2");
        is(d.row(1), "1:1/0");
        is(d.row(NONE), "");
    }

    // A removed entry is FLUSHED as any.
    static void promise14_removedIsFlushed() {
        Desk d = of("size 2");
        d.x.remove(9);
        d.x.put(1, 1);
        is(d.row(0), "1:1/0 9:100/0");
    }

    // The writer STALLS as long as LEVEL 0 has FAN and 2 RUNS or more: with FAN and 1 it does not.
    static void promise14_fanAndOneIsNoStall() {
        for (int fan = 2; fan <= 4; fan++) {
            Desk d = of("size 2; pace 0; fan " + fan, times(fan + 1, "run level 0 of 1 1", ";") + "; table 2 2");
            is(d.x.put(3, 3), 0);
            is(d.x.count(11), 0);
            is(d.x.count(0), fan + 2);
        }
    }

    // With FAN and 2 RUNS of LEVEL 0 it STALLS: as often as there are KEYS, a slice of 1 at least.
    static void promise14_fanAndTwoStalls() {
        for (int fan = 2; fan <= 4; fan++) {
            StringBuilder runs = new StringBuilder();
            for (int i = 0; i < fan + 2; i++) {
                runs.append("run level 0 of ").append(i).append(" 1;");
            }
            Desk d = of("size 2; pace 0; fan " + fan, runs + "table 40 1");
            is(d.x.put(41, 1), fan + 2);
            is(d.x.count(11), fan + 2);
            is(d.x.count(12), fan + 2);
            is(d.levels(), "0 1");
            is(d.x.run(1, 1), fan + 2);
            is(d.x.count(1), 0);
        }
    }

    // A stall is by RUNS of LEVEL 0, not by those of other LEVELS; the JOB that begins may be of another one.
    static void promise14_stallsTillLevelZeroHasRoom() {
        Desk d = of("size 2; pace 0; fan 2; run level 0 of 1 1; run level 0 of 1 1; run level 0 of 1 1; run level 0 of 1 1;"
                + "run level 3 of 2 2; run level 3 of 3 3").with("worth 20 if level > 2");
        d.x.put(40, 1);
        is(d.job(), "3 48 0 0 2");
        // Two KEYS of LEVEL 3, then the one of LEVEL 0.
        is(d.x.put(41, 1), 3);
        is(d.levels(), "0 1 3");
        is(d.logged(), "0 0 0 2; 0 2 1 1; 0 1 1 4; 0 2 3 2; 0 1 3 2");
    }

    private static final String ELEVEN = times(3, "run level 0 of 1 1", ";") + ";" + times(3, "run level 1 of 1 1", ";") + ";"
            + times(3, "run level 2 of 1 1", ";") + ";run level 3 of 5 1;run level 3 of 6 1";

    // Or there are 12 RUNS: with 11 it does not stall.
    static void promise14_elevenRunsAreNoStall() {
        Desk d = of("size 2; pace 0; fan 4", ELEVEN + ";table 40 1");
        is(d.x.count(0), 11);
        is(d.x.put(41, 1), 0);
        is(d.x.count(0), 12);
        is(d.x.count(11), 0);
    }

    // Or there are 12 RUNS: it STALLS, though LEVEL 0 has room.
    static void promise14_twelveRunsStall() {
        Desk d = of("size 2; pace 0; fan 4", ELEVEN + ";run level 3 of 7 1;table 40 1");
        is(d.x.count(0), 12);
        is(d.job(), "3 3584 0 0 3");
        is(d.x.put(41, 1), 3);
        is(d.x.count(11), 3);
        is(d.levels(), "0 0 0 0 1 1 1 2 2 2 3");
    }

    // A slice of SLICE entries: by each stall as many as SLICE is then.
    static void promise14_stallsBySlices() {
        Desk d = of("size 2; pace 3; fan 2", times(4, "run level 0 of " + row(0, 5), ";"), "pace 0; table 40 1");
        // DEBT 20: 2 KEYS by the WRITE of 40, then 12 entries in 3 KEYS: 1 and 1 and 1.
        is(d.job(), "1 15 2 2 12");
        is(d.x.put(41, 1), 3);
        Desk e = of("size 2; fan 2", times(4, "run level 0 of " + row(0, 5), ";"), "pace 0; table 40 1");
        e.x.tune(2, 2);
        // 2 and 12 by 8 are 3 KEYS.
        is(e.x.put(41, 1), 1);
    }

    // STALLED is 1 more with each; LONGEST is how often it stalled by this WRITE, if that is more.
    static void promise14_longest() {
        Desk d = of("size 2; pace 0; fan 4", "run level 0 of 1 1;" + times(3, "run level 1 of 1 1", ";") + ";"
                + times(3, "run level 2 of 1 1", ";") + ";" + times(5, "run level 3 of 5 1", ";"));
        d.x.put(40, 1);
        is(d.x.put(41, 1), 1);
        is(d.x.count(11), 1);
        is(d.x.count(12), 1);
        d.store("run level 3 of 6 1; run level 3 of 7 1; run level 3 of 7 1");
        d.x.put(40, 1);
        is(d.x.put(41, 1), 3);
        is(d.x.count(11), 4);
        is(d.x.count(12), 3);
        d.store("pace 3; run level 3 of 8 1; run level 3 of 9 1");
        d.x.put(40, 1);
        is(d.x.put(41, 1), 1);
        is(d.x.count(11), 5);
        is(d.x.count(12), 3);
    }

    // BILL is COST of each slice more, by all as it is ahead of it, also of those of stalls.
    static void promise14_billOfStalls() {
        Desk d = of("fan 2; size 2; pace 0; run level 0 of 1 1; run level 0 of 2 2; run level 0 of 3 3; run level 0 of 4 4")
                .with("cost 5 if debt > 3; cost 7 if debt < 2; cost 20 if not busy; cost 30 if full and debt < 4");
        is(d.x.put(5, 5), 0);
        is(d.x.count(13), 6);
        // DEBT 4, 3, 2, 1, the TABLE full.
        is(d.x.put(6, 6), 4);
        is(d.x.count(13), 6 + 6 + 31 + 31 + 38);
    }

    // (c) a JOB begins, if it may; if there is one, a slice of SLICE entries; BILL is COST of it more.
    static void promise14_aJobBegins() {
        Desk d = of("pace 1; size 2; run level 0 of 1 1; run level 0 of 2 2; table 3 3");
        is(d.x.count(13), 0);
        is(d.x.put(4, 4), 0);
        is(d.logged(), "0 1 1 4; 0 0 0 2");
        is(d.job(), "1 7 1 2 3");
        is(d.x.count(13), 1);
        d.x.put(9, 9);
        is(d.job(), "1 7 2 3 2");
        is(d.x.count(13), 2);
    }

    // (c) if there is none, there is no slice and no BILL.
    static void promise14_noJobNoBill() {
        Desk d = of("pace 9").with("cost 40; pace 40");
        for (int key = 0; key < 8; key++) {
            d.x.put(key, 1);
        }
        is(d.x.count(0), 2);
        is(d.x.count(13), 0);
        is(d.x.count(8), 0);
    }

    // (c) a slice of SLICE entries that are none: BILL is COST of it more.
    static void promise14_aSliceOfNone() {
        Desk d = of("fan 2; pace 0; run level 0 of 1 1; run level 0 of 2 2").with("cost 3");
        d.x.put(9, 9);
        is(d.job(), "1 3 0 0 2");
        is(d.x.count(13), 4);
    }

    // The JOB that ENDS by a stall makes room; behind (b) another one begins by (c).
    static void promise14_anotherJobBehindAStall() {
        Desk d = of("size 2; pace 0; fan 2; run level 0 of 1 1; run level 0 of 2 2; run level 0 of 3 3; run level 0 of 4 4;"
                + "run level 1 of 50 1; table 40 1");
        is(d.x.put(41, 1), 4);
        is(d.logged(), "0 1 2 5; 0 0 0 2; 0 2 1 4; 0 1 1 4");
        is(d.job(), "2 6 0 0 5");
        is(d.x.count(13), 1 + 4 + 1);
    }

    // STALLED 9999 at most, BILL 99999 at most (PUTS comes to no more than some 33000 in 512 calls).
    static void promise14_greatestCounts() {
        Desk d = of("levelled; size 2; fan 2; pace 0").with(times(12, "cost 40", ";"));
        for (int i = 0; i < 80; i++) {
            d.x.ticks(60);
        }
        is(d.x.count(11), 9999);
        is(d.x.count(13), 99999);
        is(d.x.ticks(60) > 0, true);
        is(d.x.count(11), 9999);
        is(d.x.count(13), 99999);
    }
}
