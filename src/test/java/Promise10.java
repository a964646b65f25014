/** job: what the JOB is, which one begins, and when it ENDS. */
final class Promise10 extends Promise {
    private static Desk two(String more) {
        return of("fan 2; pace 0; run level 0 of 1 1 4 4; run level 0 of 2 2 4 5 9 9; run level 1 of 3 3" + more);
    }

    // NONE of all without a JOB.
    static void promise10_withoutAJob() {
        is(new Desk().job(), "-1 -1 -1 -1 -1");
        is(two("").job(), "-1 -1 -1 -1 -1");
    }

    // NoSuchElementException: another what, with a JOB and without.
    static void promise10_anotherWhat() {
        for (int what : new int[] {-1, 5, 6, LEAST, GREATEST}) {
            Desk d = two("");
            refusesAndKeeps(d, NO_SUCH, () -> d.x.job(what));
            d.x.work();
            refusesAndKeeps(d, NO_SUCH, () -> d.x.job(what));
        }
    }

    // 0 the LEVEL to which it goes, 1 INPUTS, as bits, 2 entries of the OUTPUT, 3 AT, 4 LEFT: no OUTPUT, AT 0 as it begins.
    static void promise10_asItBegins() {
        Desk d = two("");
        d.x.work();
        is(d.job(), "1 3 0 0 5");
    }

    // AT: the KEY from which on it goes on: that KEY and 1; LEFT: entries of INPUTS with KEYS from AT on.
    static void promise10_asItGoesOn() {
        Desk d = two("; pace 1");
        d.x.work();
        is(d.job(), "1 3 1 2 4");
        d.x.work();
        is(d.job(), "1 3 2 3 3");
        d.x.work();
        is(d.job(), "1 3 3 5 1");
        d.x.work();
        is(d.job(), "-1 -1 -1 -1 -1");
    }

    // INPUTS: tiered: all RUNS of that LEVEL; it goes to the LEVEL behind it.
    static void promise10_tieredInputs() {
        Desk d = of("fan 2; pace 0; run level 0 of 1 1; run level 1 of 1 1; run level 1 of 2 2; run level 1 of 3 3; run level 2 of 1 1");
        d.x.work();
        is(d.job(), "2 14 0 0 3");
        Desk e = of("fan 2; pace 0; run level 2 of 1 1; run level 2 of 2 2; run level 3 of 3 3");
        e.x.work();
        is(e.job(), "3 3 0 0 2");
    }

    // INPUTS: levelled: these and all of the LEVEL behind it.
    static void promise10_levelledInputs() {
        Desk d = of("levelled; fan 2; pace 0; run level 0 of 1 1; run level 0 of 2 2; run level 1 of 1 1; run level 2 of 3 3");
        d.x.work();
        is(d.job(), "1 7 0 0 3");
        Desk e = of("levelled; fan 4; pace 0; run level 0 of 1 1; run level 2 of 1 1; run level 2 of 2 2; run level 3 of 3 3");
        e.x.work();
        is(e.job(), "3 14 0 0 3");
        Desk f = of("levelled; fan 2; pace 0; run level 0 of 1 1; run level 0 of 2 2; run level 2 of 3 3");
        f.x.work();
        is(f.job(), "1 3 0 0 2");
    }

    // Of LEVEL 3: these alone; it goes to 3.
    static void promise10_inputsOfLevelThree() {
        for (String plan : new String[] {"tiered", "levelled"}) {
            Desk d = of(plan + "; fan 4; pace 0; run level 2 of 1 1; run level 3 of 1 1; run level 3 of 2 2");
            d.x.work();
            is(d.job(), "3 6 0 0 2");
        }
    }

    // A JOB begins of the LEVEL of the most WORTH that is DUE.
    static void promise10_theMostWorth() {
        String store = "fan 2; pace 0; run level 0 of 1 1; run level 0 of 1 1; run level 1 of 1 1; run level 2 of 1 1;"
                + "run level 2 of 1 1; run level 3 of 1 1; run level 3 of 1 1; run level 3 of 1 1";
        Desk d = of(store);
        d.x.work();
        is(d.job(), "1 3 0 0 2");
        Desk e = of(store).with("worth 3 if level > 1; worth 40 if level > 0 and level < 2");
        e.x.work();
        is(e.job(), "3 24 0 0 2");
        Desk f = of(store).with("worth 4 if runs > 2");
        f.x.work();
        is(f.job(), "3 224 0 0 3");
    }

    // Of several the least LEVEL.
    static void promise10_ofSeveralTheLeast() {
        String store = "fan 2; pace 0; run level 0 of 1 1; run level 0 of 1 1; run level 2 of 1 1; run level 2 of 1 1;"
                + "run level 3 of 1 1; run level 3 of 1 1";
        Desk d = of(store).with("worth 2 if level > 1; worth 1 if level > 2");
        d.x.work();
        is(d.job(), "1 3 0 0 2");
        Desk e = of(store).with("worth 3 if level > 1; worth 1 if level > 2");
        e.x.work();
        is(e.job(), "3 12 0 0 2");
    }

    // If there is none: as long as there is a JOB no other one begins.
    static void promise10_oneAtATime() {
        Desk d = of("fan 2; pace 0; size 2; run level 1 of 1 1; run level 1 of 2 2");
        d.x.work();
        is(d.job(), "2 3 0 0 2");
        for (int key = 10; key < 14; key++) {
            d.x.put(key, 1);
        }
        is(d.x.level(0, 2), 1);
        is(d.job(), "2 12 0 0 2");
        is(d.x.led(1, false), 1);
    }

    // INPUTS as bits go with the RUNS: a newer RUN is numbered ahead of them.
    static void promise10_inputsBehindANewerRun() {
        Desk d = two("; size 2; table 50 5");
        is(d.job(), "1 3 0 0 5");
        d.x.put(51, 5);
        is(d.x.count(0), 4);
        is(d.job(), "1 6 0 0 5");
        is(d.x.run(0, 3), 0);
        is(d.x.run(2, 3), 1);
    }

    // When the JOB ENDS, another one begins only by what comes behind.
    static void promise10_noneBeginsAsOneEnds() {
        Desk d = of("fan 2; pace 9; run level 0 of 1 1; run level 0 of 2 2; run level 1 of 3 3");
        d.x.work();
        is(d.job(), "-1 -1 -1 -1 -1");
        is(d.x.level(1, 2), 1);
        is(d.x.led(1, false), 1);
    }
}
