/** fault: the first wrong byte of the latest text that was read. */
final class Promise06 extends Promise {
    // NONE ahead of any.
    static void promise06_aheadOfAny() {
        Desk d = new Desk().text("size 7");
        is(d.x.fault(), NONE);
        d.x.put(1, 1);
        is(d.x.fault(), NONE);
    }

    // The first wrong byte, of THE STORE and of THE LAW, counted from 0 on.
    static void promise06_firstWrongByte() {
        Desk d = new Desk();
        refuses(BAD, () -> d.store("x; size 7; y"));
        is(d.x.fault(), 0);
        refuses(BAD, () -> d.store("size 2; size 7; y"));
        is(d.x.fault(), 13);
        refuses(BAD, () -> d.law("pace 41; x"));
        is(d.x.fault(), 5);
    }

    // NONE without one.
    static void promise06_noneWithoutOne() {
        Desk d = new Desk();
        refuses(BAD, () -> d.store("size"));
        is(d.x.fault(), 4);
        d.store("size 4");
        is(d.x.fault(), NONE);
        refuses(BAD, () -> d.law("pace"));
        is(d.x.fault(), 4);
        d.law("");
        is(d.x.fault(), NONE);
    }

    // The latest text: a law behind a store, a store behind a law.
    static void promise06_theLatestText() {
        Desk d = new Desk();
        refuses(BAD, () -> d.store("size"));
        d.law("pace 1");
        is(d.x.fault(), NONE);
        refuses(BAD, () -> d.law("pace 1;"));
        is(d.x.fault(), 7);
        refuses(BAD, () -> d.store("tick 9 9"));
        is(d.x.fault(), 7);
        refuses(BAD, () -> d.store("tick 9 "  + "; tick"));
        is(d.x.fault(), 13);
    }

    // The text's length, if more must come; 400 of the longest.
    static void promise06_theTextsLength() {
        Desk d = new Desk();
        refuses(BAD, () -> d.store(" ".repeat(396) + "size"));
        is(d.x.fault(), 400);
        refuses(BAD, () -> d.law(" ".repeat(396) + "cost"));
        is(d.x.fault(), 400);
    }

    // Also by a text that is refused: the 13th one is right, so that there is none.
    static void promise06_alsoByOneThatIsRefused() {
        Desk d = new Desk();
        for (int i = 0; i < 12; i++) {
            d.store("");
        }
        refuses(BAD, () -> d.store("fan"));
        is(d.x.fault(), 3);
        refuses(FULL, () -> d.store("fan 2"));
        is(d.x.fault(), NONE);
    }

    // Where a text is read: by feed, end, may, likely, look it stays.
    static void promise06_otherTapesAreNoTexts() {
        Desk d = of("run level 0 of 1 1");
        refuses(BAD, () -> d.store("size"));
        d.tape(1, 1).x.may();
        d.tape(1, 1).x.likely();
        d.tape(1, 1).x.look();
        is(d.x.fault(), 4);
        refuses(BAD, () -> d.tape(1).x.may());
        refuses(BAD, () -> d.tape(1).x.likely());
        refuses(BAD, () -> d.tape(1).x.look());
        is(d.x.fault(), 4);
    }

    // Acts, and calls that throw, leave it.
    static void promise06_actsLeaveIt() {
        Desk d = new Desk();
        refuses(BAD, () -> d.store("size"));
        d.x.put(1, 1);
        d.x.ticks(3);
        refuses(OUT, () -> d.x.put(60, 1));
        refuses(BAD, () -> d.x.ticks(0));
        is(d.x.fault(), 4);
    }
}
