/** level: what a LEVEL has, and whether it is DUE. */
final class Promise09 extends Promise {
    private static String dues(Desk d) {
        return "" + d.x.level(0, 2) + d.x.level(1, 2) + d.x.level(2, 2) + d.x.level(3, 2);
    }

    // IndexOutOfBoundsException: there is no such LEVEL (0 to 3).
    static void promise09_noSuchLevel() {
        for (int level : new int[] {-1, 4, 5, 99, LEAST, GREATEST}) {
            Desk d = of("run level 0 of 1 1");
            for (int what = 0; what <= 3; what++) {
                int w = what;
                refuses(OUT, () -> d.x.level(level, w));
            }
            refusesAndKeeps(d, OUT, () -> d.x.level(level, 0));
        }
    }

    // Of several exceptions the one told first: no such LEVEL ahead of another what.
    static void promise09_noSuchLevelAheadOfAnotherWhat() {
        refuses(OUT, () -> new RunLedger().level(4, 4));
        refuses(OUT, () -> new RunLedger().level(-1, -1));
    }

    // NoSuchElementException: another what.
    static void promise09_anotherWhat() {
        for (int what : new int[] {-1, 4, 5, LEAST, GREATEST}) {
            Desk d = of("run level 0 of 1 1");
            refusesAndKeeps(d, NO_SUCH, () -> d.x.level(0, what));
            refuses(NO_SUCH, () -> d.x.level(3, what));
        }
    }

    // 0 its RUNS, as bits; of none they count for nothing.
    static void promise09_runsAsBits() {
        Desk d = of("run level 0 of 1 1; run level 0 of 1 1; run level 1 of 1 1; run level 3 of 1 1; run level 3 of 1 1");
        is(d.x.level(0, 0), 1 + 2);
        is(d.x.level(1, 0), 4);
        is(d.x.level(2, 0), 0);
        is(d.x.level(3, 0), 8 + 16);
        is(sized(1, 1, 1, 1, 1, 1, 1, 1, 1, 1, 1, 1).x.level(3, 0), 4095);
    }

    // 1 entries of these, the removed ones too.
    static void promise09_entriesOfThese() {
        Desk d = of("run level 0 of 1 1 2 100; run level 0 of 1 1; run level 2 of 1 1 7 7; table 5 5");
        is(d.x.level(0, 1), 3);
        is(d.x.level(1, 1), 0);
        is(d.x.level(2, 1), 2);
    }

    // Tiered: it has FAN RUNS at least.
    static void promise09_tieredDue() {
        for (int fan = 2; fan <= 4; fan++) {
            for (int level = 0; level <= 2; level++) {
                String line = "run level " + level + " of 1 1";
                is(of("fan " + fan, times(fan - 1, line, ";")).x.level(level, 2), 0);
                is(of("fan " + fan, times(fan, line, ";")).x.level(level, 2), 1);
                is(of("fan " + fan, times(fan + 1, line, ";")).x.level(level, 2), 1);
            }
        }
    }

    // Tiered: of LEVEL 3: 2 at least, whatever FAN is.
    static void promise09_tieredDueOfLevelThree() {
        for (int fan = 2; fan <= 4; fan++) {
            is(of("fan " + fan, "run level 3 of " + row(0, 20)).x.level(3, 2), 0);
            is(of("fan " + fan, "run level 3 of 1 1; run level 3 of 2 2").x.level(3, 2), 1);
        }
    }

    // Tiered: entries count for nothing.
    static void promise09_tieredDueByRunsAlone() {
        is(dues(of("size 2; fan 2; run level 0 of " + row(0, 20), "run level 1 of " + row(0, 20), "run level 2 of " + row(0, 20),
                "run level 3 of " + row(0, 20))), "0000");
    }

    // Levelled: LEVEL 0 with FAN RUNS at least; entries count for nothing.
    static void promise09_levelledDueOfLevelZero() {
        for (int fan = 2; fan <= 4; fan++) {
            String begin = "levelled; size 2; fan " + fan;
            is(of(begin, times(fan - 1, "run level 0 of " + row(0, 9), ";")).x.level(0, 2), 0);
            is(of(begin, times(fan, "run level 0 of 1 1", ";")).x.level(0, 2), 1);
            is(of(begin, times(fan + 1, "run level 0 of 1 1", ";")).x.level(0, 2), 1);
        }
    }

    // Levelled: LEVEL 1 and 2, 3 with more than one RUN.
    static void promise09_levelledDueByTwoRuns() {
        for (int level = 1; level <= 3; level++) {
            String line = "run level " + level + " of 1 1";
            is(of("levelled; fan 4", line).x.level(level, 2), 0);
            is(of("levelled; fan 4", line + ";" + line).x.level(level, 2), 1);
            is(of("levelled; fan 4", times(3, line, ";")).x.level(level, 2), 1);
        }
    }

    // Levelled: LEVEL 1 with more entries than SIZE times FAN.
    static void promise09_levelledDueByEntriesOfLevelOne() {
        int[][] all = {{2, 2}, {2, 3}, {3, 2}, {3, 4}, {4, 3}, {6, 3}, {5, 4}};
        for (int[] one : all) {
            String begin = "levelled; size " + one[0] + "; fan " + one[1];
            int most = one[0] * one[1];
            is(of(begin, "run level 1 of " + row(0, most)).x.level(1, 2), 0);
            if (most < 20) {
                is(of(begin, "run level 1 of " + row(0, most + 1)).x.level(1, 2), 1);
            }
        }
    }

    // Levelled: of LEVEL 2 SIZE times FAN times FAN.
    static void promise09_levelledDueByEntriesOfLevelTwo() {
        int[][] all = {{2, 2}, {3, 2}, {4, 2}, {2, 3}};
        for (int[] one : all) {
            String begin = "levelled; size " + one[0] + "; fan " + one[1];
            int most = one[0] * one[1] * one[1];
            is(of(begin, "run level 2 of " + row(0, most)).x.level(2, 2), 0);
            is(of(begin, "run level 2 of " + row(0, most + 1)).x.level(2, 2), 1);
        }
    }

    // Levelled: LEVEL 3 by its RUNS alone.
    static void promise09_levelledDueOfLevelThree() {
        is(of("levelled; size 2; fan 2", "run level 3 of " + row(0, 20)).x.level(3, 2), 0);
    }

    // DUE as PLAN, FAN and SIZE are told.
    static void promise09_dueAsTold() {
        Desk d = of("run level 0 of 1 1; run level 0 of 2 2; run level 1 of 1 1 2 2 3 3 4 4 5 5; run level 2 of 1 1; run level 2 of 2 2");
        is(dues(d), "0000");
        d.x.tune(0, 2);
        is(dues(d), "1010");
        d.x.plan(true);
        is(dues(d), "1010");
        d.x.tune(1, 2);
        is(dues(d), "1110");
        d.x.tune(0, 3);
        is(dues(d), "0010");
        d.x.plan(false);
        is(dues(d), "0000");
    }

    // RUNS of a LEVEL are there till the JOB ENDS: INPUTS too.
    static void promise09_inputsAreRunsOfTheirLevel() {
        Desk d = of("fan 2; pace 1; run level 0 of 1 1 3 3; run level 0 of 2 2");
        d.x.work();
        is(d.x.level(0, 0), 3);
        is(d.x.level(0, 1), 3);
        is(d.x.level(0, 2), 1);
        is(d.x.level(1, 0), 0);
        d.x.work();
        d.x.work();
        is(d.x.level(0, 0), 0);
        is(d.x.level(0, 2), 0);
        is(d.x.level(1, 0), 1);
        is(d.x.level(1, 1), 3);
    }

    // 3 WORTH: 10 less LEVEL, and what THE LAW says.
    static void promise09_worth() {
        Desk d = of("run level 1 of 1 1").with("worth 40 if level > 2; worth 2 if runs > 0; worth 0");
        is(d.x.level(0, 3), 10);
        is(d.x.level(1, 3), 11);
        is(d.x.level(2, 3), 8);
        is(d.x.level(3, 3), 47);
    }
}
