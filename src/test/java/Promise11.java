/** debt: LEFT, and entries of all RUNS of all DUE LEVELS that are no INPUTS. */
final class Promise11 extends Promise {
    // Nothing is DUE, there is no JOB: 0, whatever the RUNS and the TABLE have.
    static void promise11_none() {
        is(new RunLedger().debt(), 0);
        is(of("run level 0 of 1 1 2 2; run level 1 of 1 1; run level 2 of 1 1; table 1 1 2 2").x.debt(), 0);
    }

    // Entries of all RUNS of all DUE LEVELS, without a JOB.
    static void promise11_ofDueLevels() {
        Desk d = of("fan 2; run level 0 of 1 1 2 100; run level 0 of 1 1; run level 1 of 1 1; run level 3 of 1 1 2 2 3 3; run level 3 of 1 1");
        is(d.x.debt(), 3 + 4);
    }

    // LEFT of the JOB, and nothing of its INPUTS beside.
    static void promise11_leftOfTheJob() {
        Desk d = of("fan 2; pace 1; run level 0 of 1 1 2 2; run level 0 of 1 1 5 5");
        is(d.x.debt(), 4);
        d.x.work();
        is(d.x.debt(), 2);
        d.x.work();
        is(d.x.debt(), 1);
        d.x.work();
        is(d.x.debt(), 0);
    }

    // Those that are no INPUTS: of another DUE LEVEL, and newer ones of the same LEVEL.
    static void promise11_thatAreNoInputs() {
        Desk d = of("fan 2; pace 0; size 2; run level 0 of 1 1; run level 0 of 1 1; run level 2 of 1 1; run level 2 of 1 1");
        d.x.work();
        is(d.x.debt(), 2 + 2);
        d.x.put(50, 1);
        is(d.x.debt(), 2 + 2);
        d.x.put(51, 1);
        is(d.job(), "1 6 0 0 2");
        is(d.x.debt(), 2 + 2 + 2);
        d.x.halt();
        is(d.x.debt(), 2 + 2 + 2);
    }

    // Levelled: INPUTS of the LEVEL behind count by LEFT alone.
    static void promise11_levelledInputs() {
        Desk d = of("levelled; fan 2; pace 1; size 2; run level 0 of 1 1; run level 0 of 2 2; run level 1 of 3 3 4 4; run level 1 of 5 5");
        is(d.x.debt(), 2 + 3);
        d.x.work();
        is(d.job(), "1 15 1 2 4");
        is(d.x.debt(), 4);
    }
}
