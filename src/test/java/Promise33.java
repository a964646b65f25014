/** side: SIDE: whether it takes the newest (0) or the oldest (1) first so. */
final class Promise33 extends Promise {
    // 0, if there is none.
    static void promise33_ofNone() {
        is(new RunLedger().side(), 0);
    }

    // 0, if both do: of one, and of like ones.
    static void promise33_ifBothDo() {
        is(sized(6).x.side(), 0);
        is(sized(6, 6).x.side(), 0);
        is(sized(2, 9, 2).x.side(), 0);
        is(sized(2, 9, 3).x.side(), 0);
    }

    // The newest (0).
    static void promise33_theNewest() {
        is(sized(9, 6).x.side(), 0);
        is(sized(5, 1, 1).x.side(), 0);
        is(sized(2, 1, 9, 3).x.side(), 0);
    }

    // The oldest (1), though the newest may have more.
    static void promise33_theOldest() {
        is(sized(6, 9).x.side(), 1);
        is(sized(3, 9, 1, 2).x.side(), 1);
        is(sized(1, 1, 5).x.side(), 1);
        is(sized(1, 1, 1, 1, 1, 1, 1, 1, 1, 1, 1, 20).x.side(), 1);
    }
}
