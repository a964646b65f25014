/** may: MAY BE. */
final class Promise29 extends Promise {
    private static Desk three() {
        return of("run level 0 of 1 10 2 20 3 30; run level 1 of 1 10 2 21; run level 2 of 1 10 2 100 4 40");
    }

    // None may be told: all RUNS; of no RUNS none.
    static void promise29_noRows() {
        is(three().tape().x.may(), 7);
        is(new Desk().tape().x.may(), 0);
        is(sized(1, 1, 1, 1, 1, 1, 1, 1, 1, 1, 1, 1).tape().x.may(), 4095);
    }

    // RUNS of which all rows are so.
    static void promise29_allRowsAreSo() {
        is(three().tape(1, 10, 2, 21, 3, 101, 4, 101).x.may(), 2);
        is(three().tape(1, 10, 2, 20, 3, 30).x.may(), 1);
    }

    // But for one at most: one wrong row is none too many, two are.
    static void promise29_oneWrongRow() {
        is(three().tape(1, 11).x.may(), 7);
        is(three().tape(1, 10, 2, 20).x.may(), 7);
        is(three().tape(2, 20, 3, 30).x.may(), 1);
        is(three().tape(0, 1, 5, 1).x.may(), 0);
        is(three().tape(1, 10, 2, 20, 3, 31).x.may(), 1 | 0);
    }

    // 101: it has none; 100 is a removed entry, which is none of these.
    static void promise29_noneAndRemoved() {
        is(three().tape(3, 101, 2, 99, 4, 101).x.may(), 2);
        is(three().tape(2, 100, 4, 40, 3, 101).x.may(), 4);
        is(three().tape(2, 101, 4, 40).x.may(), 4);
        is(three().tape(2, 101, 0, 0).x.may(), 0);
    }

    // Rows are each by themselves: one that is told twice is wrong twice.
    static void promise29_oneRowTwice() {
        is(three().tape(2, 20, 2, 20).x.may(), 1);
        is(three().tape(2, 20, 2, 21).x.may(), 3);
    }

    // The TABLE is none of RUNS.
    static void promise29_theTableIsNoRun() {
        is(of("table 1 10").tape(1, 10).x.may(), 0);
    }

    // KEYS 0 to 59, VALUES 0 to 101.
    static void promise29_leastAndGreatest() {
        Desk d = of("run level 0 of 0 0 59 99");
        is(d.tape(0, 0, 59, 99).x.may(), 1);
        is(d.tape(0, 1, 59, 98).x.may(), 0);
        is(d.tape(58, 101, 59, 100).x.may(), 1);
    }

    // At most 40 bytes.
    static void promise29_fortyBytes() {
        Desk d = of("run level 0 of 0 0");
        is(d.tape(new int[40]).x.may(), 1);
        refuses(BAD, () -> d.tape(new int[42]).x.may());
    }

    /** Tapes that are not that. */
    static final int[][] WRONG = {{1}, {1, 10, 2}, {60, 1}, {255, 1}, {128, 1}, {1, 102}, {1, 255}, {1, 10, 2, 102},
        {1, 10, 60, 5}, new int[39], new int[41], new int[42], new int[400]};

    // IllegalArgumentException: the TAPE is not that; it is used up, and changes nothing.
    static void promise29_notThat() {
        for (int[] wrong : WRONG) {
            Desk d = of("run level 0 of 1 1; table 2 2");
            String before = d.all();
            refuses(BAD, () -> d.tape(wrong).x.may());
            is(d.all(), before);
            is(d.x.end(1), false);
        }
    }

    // Uses the TAPE up.
    static void promise29_usesTheTapeUp() {
        Desk d = three();
        d.tape(1, 10, 2, 20).x.may();
        is(d.x.end(1), false);
        is(d.x.may(), 7);
    }
}
