/** run: what a RUN is. */
final class Promise07 extends Promise {
    private static Desk two() {
        return of("fan 2; pace 2; run level 0 of 1 10 5 20; run level 0 of 1 11 7 70 9 100 12 1; run level 2 of 3 3; table 5 21");
    }

    // IndexOutOfBoundsException: there is no such RUN.
    static void promise07_noSuchRun() {
        for (int run : new int[] {NONE, -2, 3, 12, 99, LEAST, GREATEST}) {
            Desk d = two();
            for (int what = 0; what <= 4; what++) {
                int w = what;
                refuses(OUT, () -> d.x.run(run, w));
            }
            refusesAndKeeps(d, OUT, () -> d.x.run(run, 0));
        }
        refuses(OUT, () -> new RunLedger().run(0, 0));
    }

    // Of several exceptions the one told first: no such RUN ahead of another what.
    static void promise07_noSuchRunAheadOfAnotherWhat() {
        refuses(OUT, () -> two().x.run(3, 5));
        refuses(OUT, () -> two().x.run(-1, -1));
        refuses(OUT, () -> new RunLedger().run(0, 9));
    }

    // NoSuchElementException: another what.
    static void promise07_anotherWhat() {
        for (int what : new int[] {-1, 5, 6, LEAST, GREATEST}) {
            Desk d = two();
            refusesAndKeeps(d, NO_SUCH, () -> d.x.run(0, what));
        }
    }

    // 0 LEVEL: 0 to 3.
    static void promise07_level() {
        Desk d = of("run level 0 of 1 1; run level 1 of 1 1; run level 2 of 1 1; run level 3 of 1 1");
        for (int level = 0; level < 4; level++) {
            is(d.x.run(level, 0), level);
        }
    }

    // 1 how many entries, the removed ones too.
    static void promise07_entries() {
        Desk d = of("run level 0 of 1 10 5 20; run level 1 of 1 11 7 70 9 100; run level 2 of 1 100");
        is(d.x.run(0, 1), 2);
        is(d.x.run(1, 1), 3);
        is(d.x.run(2, 1), 1);
    }

    // 2 the most REWRITES: 0 of a RUN that was not merged, the most of those of its entries else.
    static void promise07_mostRewrites() {
        Desk d = of("fan 2; pace 9; run level 0 of 0 1; run level 0 of 5 5; run level 1 of 7 7");
        is(d.x.run(0, 2), 0);
        d.x.work();
        is(d.row(0), "0:1/1 5:5/1");
        is(d.x.run(0, 2), 1);
        d.x.work();
        is(d.row(0), "0:1/2 5:5/2 7:7/1");
        is(d.x.run(0, 2), 2);
        // The KEY 0 alone has the most.
        Desk first = of("fan 2; pace 9; run level 0 of 0 1; run level 0 of 0 2; run level 1 of 5 5 6 6");
        first.x.work();
        is(first.x.run(0, 2), 1);
        first.x.work();
        is(first.row(0), "0:1/2 5:5/1 6:6/1");
        is(first.x.run(0, 2), 2);
        Desk last = of("fan 2; pace 9; run level 0 of 9 9; run level 0 of 8 8; run level 1 of 7 7");
        last.x.work();
        last.x.work();
        is(last.row(0), "7:7/1 8:8/2 9:9/2");
        is(last.x.run(0, 2), 2);
    }

    // 3 1 if it is one of INPUTS.
    static void promise07_inputs() {
        Desk d = two();
        is(d.job(), "1 3 2 6 3");
        is(d.x.run(0, 3), 1);
        is(d.x.run(1, 3), 1);
        is(d.x.run(2, 3), 0);
        d.x.halt();
        is(d.x.run(0, 3), 0);
        is(d.x.run(1, 3), 0);
    }

    // 4 SHARE of entries of all RUNS, in hundredths, rounded down; those of the TABLE count for nothing.
    static void promise07_share() {
        Desk d = of("run level 0 of 1 1; run level 0 of 1 1 2 2; table 1 1 2 2 3 3");
        is(d.x.run(0, 4), 33);
        is(d.x.run(1, 4), 66);
        is(of("run level 3 of 7 100; table 1 1").x.run(0, 4), 100);
        is(sized(1, 20, 20, 20, 20, 20).x.run(0, 4), 0);
        is(sized(1, 20, 20, 20, 20, 19).x.run(0, 4), 1);
        is(sized(1, 20, 20, 20, 20, 20).x.run(1, 4), 19);
    }
}
