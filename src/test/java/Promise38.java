/** twins: TWINS: pairs of RUNS of like LEVEL and as many entries. */
final class Promise38 extends Promise {
    // Of none, of one.
    static void promise38_none() {
        is(new RunLedger().twins(), 0);
        is(sized(1).x.twins(), 0);
        is(of("table 1 1; run level 0 of 1 1").x.twins(), 0);
    }

    // As many entries.
    static void promise38_asManyEntries() {
        is(sized(1, 3, 3).x.twins(), 1);
        is(sized(1, 2, 3).x.twins(), 0);
        is(of("run level 0 of 1 1 2 2; run level 0 of 7 100 9 100").x.twins(), 1);
    }

    // Of like LEVEL.
    static void promise38_ofLikeLevel() {
        is(of("run level 0 of 1 1; run level 1 of 1 1").x.twins(), 0);
        is(of("run level 0 of 1 1; run level 0 of 2 2; run level 1 of 1 1; run level 1 of 3 3").x.twins(), 2);
    }

    // Pairs: each two of them.
    static void promise38_eachTwo() {
        is(sized(3, 3, 3).x.twins(), 3);
        is(sized(3, 1, 3, 1, 3).x.twins(), 4);
        is(sized(1, 1, 1, 1, 1, 1, 1, 1, 1, 1, 1, 1).x.twins(), 66);
    }
}
