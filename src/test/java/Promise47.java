/** back: one goes back to THE IMAGE. */
final class Promise47 extends Promise {
    // false, and nothing happens, if none was kept.
    static void promise47_noneWasKept() {
        Desk d = of("size 2; table 1 1 2 2 3 3").with("pace 2");
        d.x.put(4, 4);
        d.text("ab");
        String before = d.all();
        is(d.x.back(), false);
        is(d.all(), before);
        is(d.x.end(2), true);
    }

    // true: also again and again, by a JOB that runs.
    static void promise47_againAndAgain() {
        Desk d = of("fan 2; pace 1; run level 0 of 1 1 2 2; run level 0 of 3 3");
        d.x.work();
        d.x.image();
        String kept = d.state() + d.logged();
        for (int i = 0; i < 3; i++) {
            d.x.work();
            d.x.work();
            is(d.job(), "-1 -1 -1 -1 -1");
            is(d.x.back(), true);
            is(d.state() + d.logged(), kept);
        }
        is(d.x.work(), 1);
        is(d.job(), "1 3 2 3 1");
    }

    // Right behind it: nothing has changed but that no acts are remembered.
    static void promise47_rightBehindIt() {
        Desk d = new Desk();
        d.x.put(1, 1);
        d.x.image();
        String kept = d.state();
        is(d.x.back(), true);
        is(d.state(), kept);
        is(d.x.count(16), 0);
    }

    // But for the TAPE and fault().
    static void promise47_tapeAndFaultStay() {
        Desk d = new Desk().text("size 2");
        d.x.image();
        d.x.store();
        refuses(BAD, () -> d.law("pace"));
        d.text("size 5");
        is(d.x.back(), true);
        is(d.x.count(6), 4);
        is(d.x.fault(), 4);
        is(d.x.end(6), true);
        is(d.x.store(), 1);
        is(d.x.count(6), 5);
    }

    // But for THE IMAGE itself: it stays kept.
    static void promise47_theImageStays() {
        Desk d = new Desk();
        d.x.image();
        d.x.put(1, 1);
        d.x.image();
        d.x.put(1, 2);
        is(d.x.back(), true);
        is(d.x.get(1), 1);
        d.x.put(1, 3);
        is(d.x.back(), true);
        is(d.x.get(1), 1);
    }

    // How many texts there are, too: behind it as many more may come.
    static void promise47_textsToo() {
        Desk d = new Desk();
        d.store("");
        d.x.image();
        for (int i = 2; i <= 12; i++) {
            d.store("");
        }
        refuses(FULL, () -> d.store(""));
        is(d.x.back(), true);
        is(d.x.count(2), 1);
        is(d.store("fan 2"), 2);
    }
}
