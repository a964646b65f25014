/** image: THE IMAGE is kept. */
final class Promise46 extends Promise {
    // Of all: what is done behind it changes nothing of it.
    static void promise46_ofAll() {
        Desk d = of("fan 2; size 3; pace 1; tick 5; run level 0 of 1 1 2 2; run level 0 of 3 3 4 4; run level 1 of 1 5")
                .with("cost 2; worth 3 if level > 1");
        d.x.seed(55);
        d.x.work();
        String kept = d.state() + d.logged();
        d.x.image();
        is(d.state() + d.logged(), kept);
        d.x.seed(7);
        d.x.ticks(30);
        d.store("levelled; fan 4; size 5; pace 7; tick 99");
        d.law("pace 3");
        is(d.x.back(), true);
        is(d.state() + d.logged(), kept);
    }

    // One: the latest that was kept.
    static void promise46_one() {
        Desk d = new Desk();
        d.x.put(1, 1);
        d.x.image();
        d.x.put(1, 2);
        d.x.image();
        d.x.put(1, 3);
        is(d.x.back(), true);
        is(d.x.get(1), 2);
        is(d.x.back(), true);
        is(d.x.get(1), 2);
    }

    // It is no ACT, and acts are remembered behind it.
    static void promise46_noAct() {
        Desk d = new Desk();
        d.x.put(1, 1);
        d.x.image();
        is(d.x.count(16), 1);
        is(d.x.undo(), true);
        is(d.x.get(1), NONE);
    }

    // Of a new object, without entries.
    static void promise46_withoutEntries() {
        Desk d = new Desk();
        d.x.image();
        String kept = d.state();
        d.store("size 2; fan 2; table 1 1 2 2 3 3; run level 3 of 5 5");
        d.law("pace 1");
        is(d.x.back(), true);
        is(d.state(), kept);
        is(d.x.count(3), NONE);
        is(d.x.count(2), 0);
    }
}
