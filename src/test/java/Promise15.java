/** remove: a KEY is removed. */
final class Promise15 extends Promise {
    // IndexOutOfBoundsException: there is no such KEY.
    static void promise15_noSuchKey() {
        for (int key : NO_KEYS) {
            Desk d = of("size 2; table 5 5; run level 0 of 1 1");
            refusesAndKeeps(d, OUT, () -> d.x.remove(key));
        }
    }

    // 100: removed: the least and the greatest KEY; a KEY that is nowhere, too.
    static void promise15_removedEntry() {
        Desk d = of("size 6; run level 0 of 0 7");
        is(d.x.remove(0), 0);
        is(d.x.remove(59), 0);
        is(d.row(NONE), "0:100/0 59:100/0");
        is(d.x.get(0), NONE);
        is(d.row(0), "0:7/0");
        is(d.x.count(10), 2);
    }

    // In place of that of its KEY.
    static void promise15_inPlaceOfThatOfItsKey() {
        Desk d = of("size 2");
        d.x.put(7, 7);
        is(d.x.remove(7), 0);
        is(d.x.remove(7), 0);
        is(d.row(NONE), "7:100/0");
        is(d.x.count(0), 0);
        is(d.x.count(10), 3);
    }

    // By a WRITE: FLUSHED, and how often it stalled.
    static void promise15_howOftenItStalled() {
        Desk d = of("size 2; pace 0; fan 2; run level 0 of 1 1; run level 0 of 2 2; run level 0 of 3 3; run level 0 of 4 4; table 40 1");
        is(d.x.remove(4), 4);
        is(d.x.count(11), 4);
        is(d.row(0), "4:100/0 40:1/0");
        is(d.row(1), "1:1/1 2:2/1 3:3/1 4:4/1");
    }

    // By a WRITE: a JOB begins, and a slice of it is done.
    static void promise15_aSlice() {
        Desk d = of("fan 2; pace 1; run level 0 of 1 1; run level 0 of 2 2");
        d.x.remove(1);
        is(d.job(), "1 3 1 2 1");
        is(d.x.count(13), 1);
    }
}
