/** many: COUNT: KEYS that are FOUND. */
final class Promise23 extends Promise {
    // None.
    static void promise23_none() {
        is(new RunLedger().many(), 0);
        is(of("run level 0 of 1 100; run level 0 of 1 1; table 2 100").x.many(), 0);
    }

    // Each KEY once, wherever it is.
    static void promise23_eachOnce() {
        is(of("run level 0 of 1 1 2 2; run level 0 of 1 3 2 100 7 7; table 1 9 5 5").x.many(), 4);
    }

    // Removed ones are not counted, VALUES of 0 are; the KEYS 0 and 59 too.
    static void promise23_removedOnes() {
        RunLedger x = of("run level 0 of 0 0 7 7 59 0; table 7 100").x;
        is(x.many(), 2);
    }

    // All 60.
    static void promise23_all() {
        is(of("run level 3 of " + row(0, 20), "run level 3 of " + row(20, 20), "run level 3 of " + row(40, 20)).x.many(), 60);
    }
}
