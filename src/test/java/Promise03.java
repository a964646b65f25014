/** end: the TAPE has its first n bytes alone. */
final class Promise03 extends Promise {
    // The TAPE has its first n bytes alone: true.
    static void promise03_firstBytesAlone() {
        Desk d = new Desk();
        d.text("size 6; fan 2");
        is(d.x.end(6), true);
        is(d.x.store(), 1);
        is(d.x.count(6), 6);
        is(d.x.count(5), 3);
    }

    // Alone: of a word and of a number the first bytes are the text's last ones.
    static void promise03_withinAWord() {
        Desk d = new Desk().text("levelledled");
        is(d.x.end(8), true);
        is(d.x.store(), 1);
        is(d.x.count(4), 1);
        for (int n = 1; n < 8; n++) {
            Desk e = new Desk().text("levelled");
            e.x.end(n);
            refuses(BAD, e.x::store);
            is(e.x.fault(), 0);
        }
        Desk f = new Desk().text("tick 1234");
        f.x.end(8);
        is(f.x.store(), 1);
        is(f.x.count(14), 123);
        Desk g = new Desk().text("pace 1 if busy");
        g.x.end(8);
        refuses(BAD, g.x::law);
        is(g.x.fault(), 7);
    }

    // Alone: what a longer text left behind is no part of a shorter one.
    static void promise03_behindALongerText() {
        Desk d = of("levelled; size 6; fan 2; pace 9; tick 123");
        d.x.feed(0x74696572, 0x65640000, 0, 0, 0);
        d.x.end(6);
        is(d.x.store(), 2);
        is(d.x.count(4), 0);
        is(d.x.count(6), 6);
    }

    // As many as it has: true, and it has them.
    static void promise03_asManyAsItHas() {
        Desk d = new Desk().text("size 6");
        is(d.x.end(6), true);
        is(d.x.store(), 1);
        is(d.x.count(6), 6);
    }

    // None: true, also of an empty TAPE.
    static void promise03_none() {
        Desk d = new Desk();
        is(d.x.end(0), true);
        d.text("size 6");
        is(d.x.end(0), true);
        is(d.x.end(1), false);
        is(d.x.store(), 1);
        is(d.x.count(6), 4);
    }

    // false, and nothing happens, if it has fewer.
    static void promise03_fewer() {
        Desk d = new Desk().text("size 6");
        for (int n : new int[] {7, 20, 400, 401, GREATEST}) {
            is(d.x.end(n), false);
        }
        is(d.x.end(6), true);
        is(d.x.store(), 1);
        is(d.x.count(6), 6);
        is(new RunLedger().end(1), false);
    }

    // false, and nothing happens, if n is below 0.
    static void promise03_belowNone() {
        Desk d = new Desk().text("size 6");
        for (int n : new int[] {-1, -2, -20, LEAST}) {
            is(d.x.end(n), false);
        }
        is(d.x.end(6), true);
        is(d.x.store(), 1);
        is(d.x.count(6), 6);
    }

    // The bytes behind are gone.
    static void promise03_theOthersAreGone() {
        Desk d = new Desk().text("size 6; fan 2");
        is(d.x.end(6), true);
        is(d.x.end(7), false);
        is(d.x.end(6), true);
    }
}
