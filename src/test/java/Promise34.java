/** pairs: PAIRS: how many, or with which one a RUN is. */
final class Promise34 extends Promise {
    private static String partners(Desk d, int runs) {
        StringBuilder told = new StringBuilder();
        for (int run = 0; run < runs; run++) {
            told.append(run == 0 ? "" : " ").append(d.x.pairs(run));
        }
        return told.toString();
    }

    // IndexOutOfBoundsException: there is no such RUN.
    static void promise34_noSuchRun() {
        for (int run : new int[] {-2, 2, 3, 12, 99, LEAST, GREATEST}) {
            Desk d = sized(1, 1);
            refusesAndKeeps(d, OUT, () -> d.x.pairs(run));
        }
        refuses(OUT, () -> new RunLedger().pairs(0));
    }

    // How many (run NONE): KEYS that both have; of none, and of one, 0.
    static void promise34_howMany() {
        is(new RunLedger().pairs(NONE), 0);
        is(sized(5).x.pairs(NONE), 0);
        is(sized(3, 2).x.pairs(NONE), 2);
        is(sized(3, 3, 3).x.pairs(NONE), 3);
        is(sized(3, 3, 3, 3).x.pairs(NONE), 6);
        is(of("run level 0 of 1 1; run level 0 of 2 2").x.pairs(NONE), 0);
    }

    // KEYS that both have: whatever the VALUES are, removed ones too.
    static void promise34_keysThatBothHave() {
        is(of("run level 0 of 0 1 5 5 59 100; run level 0 of 0 2 59 3; table 5 5").x.pairs(NONE), 2);
    }

    // Two by two, so that they are together the most: not the best pair first.
    static void promise34_togetherTheMost() {
        Desk d = of("run level 0 of 1 1 2 2 3 3; run level 0 of 1 1 2 2 7 7; run level 0 of 3 3 8 8; run level 0 of 7 7 9 9");
        is(d.x.pairs(NONE), 2);
        Desk e = of("run level 0 of 1 1 2 2 3 3 4 4; run level 0 of 1 1 2 2 3 3 7 7 8 8; run level 0 of 2 2 4 4;"
                + "run level 0 of 7 7 8 8");
        is(e.x.pairs(NONE), 4);
        is(partners(e, 4), "2 3 0 1");
    }

    // Together the most: with one that would be another one's, and beside one that is put already.
    static void promise34_besideOthers() {
        Desk d = of("run level 0 of 1 1 2 1 3 1; run level 0 of 1 1 2 1 3 1 7 1 8 1; run level 0 of 7 1 8 1");
        is(d.x.pairs(NONE), 3);
        is(partners(d, 3), "1 0 -1");
        Desk e = of("run level 0 of 1 1 2 1 3 1; run level 0 of 8 1 9 1; run level 0 of 1 1 2 1 3 1 9 1; run level 0 of 8 1");
        is(e.x.pairs(NONE), 4);
        is(partners(e, 4), "2 3 0 1");
    }

    // With which one is: none alone.
    static void promise34_alone() {
        is(sized(1).x.pairs(0), NONE);
        is(partners(sized(3, 2), 2), "1 0");
    }

    // The first such way: RUN by RUN, none being the least.
    static void promise34_noneIsTheLeast() {
        is(partners(sized(3, 3, 3), 3), "-1 2 1");
        is(partners(of("run level 0 of 1 1; run level 0 of 2 2"), 2), "-1 -1");
        is(partners(of("run level 0 of 1 1 5 5; run level 0 of 2 2; run level 0 of 5 5; run level 0 of 3 3"), 4), "2 -1 0 -1");
    }

    // Then the others: the least of these.
    static void promise34_thenTheOthers() {
        is(partners(sized(3, 3, 3, 3), 4), "1 0 3 2");
        is(partners(sized(1, 1, 1, 1, 1, 1), 6), "1 0 3 2 5 4");
        is(partners(of("run level 0 of 1 1 2 2; run level 0 of 5 5; run level 0 of 2 2 5 100; run level 0 of 1 1 2 3"), 4), "3 2 1 0");
    }

    // The newest 8 RUNS at most.
    static void promise34_theNewestEight() {
        Desk d = sized(1, 1, 1, 1, 1, 1, 1, 1, 5, 5, 5, 5);
        is(d.x.pairs(NONE), 4);
        is(partners(d, 8), "1 0 3 2 5 4 7 6");
    }

    // NONE also of a RUN behind the newest 8.
    static void promise34_behindTheNewestEight() {
        Desk d = sized(1, 1, 1, 1, 1, 1, 1, 1, 5, 5);
        is(d.x.pairs(8), NONE);
        is(d.x.pairs(9), NONE);
        refuses(OUT, () -> d.x.pairs(10));
        is(sized(1, 1, 1, 1, 1, 1, 1, 1, 1).x.pairs(7), 6);
    }
}
