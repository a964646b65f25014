/** deepest: DEEPEST: the least number N so that each FOUND KEY TOOK N at most. */
final class Promise28 extends Promise {
    // 0 without.
    static void promise28_without() {
        is(new RunLedger().deepest(), 0);
        is(of("run level 0 of 1 100; run level 0 of 1 1; table 2 100").x.deepest(), 0);
    }

    // Each FOUND KEY TOOK N at most: the most of them.
    static void promise28_theMost() {
        is(of("table 1 1").x.deepest(), 1);
        is(of("run level 0 of 1 1").x.deepest(), 1);
        is(of("run level 0 of 1 1; table 2 2").x.deepest(), 2);
        is(of("run level 0 of 1 1; run level 0 of 1 2 2 2; run level 1 of 1 3 9 9").x.deepest(), 3);
    }

    // What is older and no more FOUND there counts for nothing.
    static void promise28_foundKeysAlone() {
        is(of("run level 0 of 1 1 2 100; run level 0 of 1 2 2 2; table 9 9").x.deepest(), 2);
        is(of("run level 0 of 1 1; run level 0 of 3 100; run level 0 of 1 2").x.deepest(), 1);
    }

    // The KEYS 0 and 59.
    static void promise28_leastAndGreatestKey() {
        is(of("run level 0 of 1 1; run level 0 of 59 1").x.deepest(), 2);
        is(of("run level 0 of 1 1; run level 0 of 0 1").x.deepest(), 2);
    }

    // As deep as it can be: the TABLE and 12 RUNS.
    static void promise28_thirteen() {
        Desk d = of("pace 0; table 40 1", times(11, "run level 3 of 1 1", ";") + ";run level 3 of 2 2");
        is(d.x.deepest(), 13);
    }
}
