/** most: LARGEST, MOST REWRITTEN. */
final class Promise37 extends Promise {
    // NoSuchElementException: another what, also without RUNS.
    static void promise37_anotherWhat() {
        for (int what : new int[] {-1, 2, 3, LEAST, GREATEST}) {
            Desk d = sized(1, 2);
            refusesAndKeeps(d, NO_SUCH, () -> d.x.most(what));
            refuses(NO_SUCH, () -> new RunLedger().most(what));
        }
    }

    // None, both.
    static void promise37_none() {
        is(new RunLedger().most(0), NONE);
        is(new RunLedger().most(1), NONE);
        is(of("table 1 1").x.most(0), NONE);
        is(of("table 1 1").x.most(1), NONE);
    }

    // LARGEST: the RUN of the most entries.
    static void promise37_largest() {
        is(sized(1, 3, 2).x.most(0), 1);
        is(sized(1, 2, 3).x.most(0), 2);
        is(sized(1, 1, 1, 1, 1, 1, 1, 1, 1, 1, 1, 2).x.most(0), 11);
        is(of("run level 0 of 1 1; run level 0 of 1 100 2 100").x.most(0), 1);
    }

    // Of several the newest.
    static void promise37_largestOfSeveral() {
        is(sized(3, 3, 1).x.most(0), 0);
        is(sized(1, 3, 3).x.most(0), 1);
    }

    // MOST REWRITTEN: the RUN with the entry of the most REWRITES.
    static void promise37_mostRewritten() {
        Desk d = of("fan 2; pace 9; run level 0 of 3 3; run level 1 of 1 1; run level 1 of 2 2; run level 3 of 4 4");
        is(d.x.work(), 2);
        is(d.row(1), "1:1/1 2:2/1");
        is(d.x.most(1), 1);
    }

    // Of several the newest: if none was rewritten, too.
    static void promise37_mostRewrittenOfSeveral() {
        is(sized(1, 3, 2).x.most(1), 0);
        Desk d = of("fan 2; pace 9; run level 0 of 3 3; run level 1 of 1 1; run level 1 of 2 2; run level 3 of 4 4; run level 3 of 5 5");
        d.x.work();
        d.x.work();
        is(d.levels(), "0 2 3");
        is(d.row(2), "4:4/1 5:5/1");
        is(d.x.most(1), 1);
    }
}
