/** seed: SEED. */
final class Promise44 extends Promise {
    // What it was.
    static void promise44_whatItWas() {
        RunLedger x = new RunLedger();
        is(x.seed(5), 1);
        is(x.seed(-7), 5);
        is(x.seed(0), -7);
        is(x.seed(LEAST), 0);
        is(x.seed(GREATEST), LEAST);
        is(x.seed(1), GREATEST);
    }

    // From it the next DRAW comes.
    static void promise44_theNextDraw() {
        Desk d = new Desk();
        d.x.ticks(20);
        String row = d.state();
        Desk e = new Desk();
        e.x.ticks(7);
        int seed = e.x.seed(1234);
        e.x.seed(seed);
        e.x.ticks(13);
        is(e.state(), row);
    }

    // By a WRITE by hand, and a slice, SEED stays.
    static void promise44_staysByOtherActs() {
        Desk d = of("fan 2; run level 0 of 1 1; run level 0 of 2 2; table 3 3 4 4 5 5 6 6");
        d.x.seed(77);
        d.x.put(9, 9);
        d.x.remove(9);
        d.x.flush();
        d.x.tune(0, 3);
        is(d.x.seed(1), 77);
    }

    // It is no ACT.
    static void promise44_noAct() {
        RunLedger x = new RunLedger();
        x.seed(9);
        is(x.count(16), 0);
        is(x.undo(), false);
        is(x.seed(1), 9);
    }
}
