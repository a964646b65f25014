/** lead: TURNS: how much more who begins has in the end. */
final class Promise32 extends Promise {
    // Of none 0.
    static void promise32_ofNone() {
        is(new RunLedger().lead(), 0);
        is(of("table 1 1").x.lead(), 0);
    }

    // Of one all that it has.
    static void promise32_ofOne() {
        is(sized(6).x.lead(), 6);
    }

    // By turns the newest or the oldest of those that are left, both at their best.
    static void promise32_bothAtTheirBest() {
        is(sized(6, 9).x.lead(), 3);
        is(sized(9, 6).x.lead(), 3);
        is(sized(6, 6).x.lead(), 0);
        is(sized(1, 1, 1).x.lead(), 1);
        is(sized(3, 9, 1, 2).x.lead(), 2 - 3 + 9 - 1);
        is(sized(5, 3, 7, 10).x.lead(), 10 - 7 + 5 - 3);
    }

    // Less than nothing, if the other one has more.
    static void promise32_lessThanNothing() {
        is(sized(2, 9, 3).x.lead(), 3 - 9 + 2);
        is(sized(1, 20, 1).x.lead(), 1 - 20 + 1);
    }

    // Removed entries are entries; of twelve.
    static void promise32_ofTwelve() {
        is(sized(1, 1, 1, 1, 1, 1, 1, 1, 1, 1, 1, 20).x.lead(), 19);
        is(of("run level 3 of 1 100 2 100; run level 3 of 1 1").x.lead(), 1);
    }
}
