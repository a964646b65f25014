/** likely: LIKELY. */
final class Promise30 extends Promise {
    private static Desk three() {
        return of("run level 0 of 1 10 2 20 3 30; run level 1 of 1 10 2 21; run level 2 of 1 10 2 100 4 40");
    }

    // The one of the fewest wrong rows.
    static void promise30_theFewestWrongRows() {
        is(three().tape(1, 10, 2, 21).x.likely(), 1);
        is(three().tape(2, 100, 4, 41).x.likely(), 2);
        is(three().tape(4, 40).x.likely(), 2);
        is(three().tape(2, 100, 1, 10, 3, 30, 4, 40).x.likely(), 2);
    }

    // Of several the newest.
    static void promise30_ofSeveralTheNewest() {
        is(three().tape().x.likely(), 0);
        is(three().tape(1, 10).x.likely(), 0);
        is(three().tape(0, 1).x.likely(), 0);
        is(three().tape(0, 1, 3, 101).x.likely(), 1);
    }

    // None: of no RUNS, and where none may be.
    static void promise30_none() {
        is(new Desk().tape().x.likely(), NONE);
        is(new Desk().tape(1, 101).x.likely(), NONE);
        is(of("table 1 10").tape(1, 10).x.likely(), NONE);
        is(three().tape(0, 1, 5, 1).x.likely(), NONE);
    }

    // At most 40 bytes; the TAPE as for MAY BE.
    static void promise30_fortyBytes() {
        Desk d = of("run level 0 of 0 0");
        is(d.tape(new int[40]).x.likely(), 0);
        is(d.tape(59, 101).x.likely(), 0);
        refuses(BAD, () -> d.tape(new int[42]).x.likely());
    }

    // IllegalArgumentException: the TAPE is not that; it is used up, and changes nothing.
    static void promise30_notThat() {
        for (int[] wrong : Promise29.WRONG) {
            Desk d = of("run level 0 of 1 1; table 2 2");
            String before = d.all();
            refuses(BAD, () -> d.tape(wrong).x.likely());
            is(d.all(), before);
            is(d.x.end(1), false);
        }
    }

    // Uses the TAPE up.
    static void promise30_usesTheTapeUp() {
        Desk d = three();
        is(d.tape(4, 40).x.likely(), 2);
        is(d.x.end(1), false);
        is(d.x.likely(), 0);
    }
}
