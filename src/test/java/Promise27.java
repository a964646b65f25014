/** cheapest: CHEAPEST, or SPLIT. */
final class Promise27 extends Promise {
    private static void cheapest(Desk d, int cost, int split) {
        is(d.x.cheapest(false), cost);
        is(d.x.cheapest(true), split);
    }

    // 0 of one, or none; SPLIT: none.
    static void promise27_ofOneOrNone() {
        cheapest(new Desk(), 0, NONE);
        cheapest(sized(5), 0, NONE);
        cheapest(of("table 1 1"), 0, NONE);
    }

    // Two: at as many as both have entries (none lost on the way).
    static void promise27_ofTwo() {
        cheapest(sized(5, 7), 12, 1);
        cheapest(of("run level 0 of 1 1; run level 0 of 1 100"), 2, 1);
    }

    // Two neighbours in the row merged at a time: the least altogether.
    static void promise27_theLeast() {
        cheapest(sized(5, 1, 7), 6 + 13, 2);
        cheapest(sized(7, 1, 5), 6 + 13, 1);
        cheapest(sized(1, 9, 1), 10 + 11, 1);
        cheapest(sized(1, 1, 1, 1, 20), 8 + 24, 4);
        cheapest(sized(20, 1, 1, 1, 1), 8 + 24, 1);
        cheapest(sized(9, 1, 1, 9), 2 + 11 + 20, 1);
    }

    // SPLIT: of the first such way (the fewest).
    static void promise27_theFewest() {
        cheapest(sized(4, 4, 4), 8 + 12, 1);
        cheapest(sized(4, 1, 4), 5 + 9, 1);
        cheapest(sized(2, 2, 2, 2, 2), 12 + 12, 2);
        cheapest(sized(1, 1, 2, 2), 2 + 4 + 6, 2);
    }

    // Whatever else was asked ahead of it.
    static void promise27_askedBehindOthers() {
        Desk d = sized(5, 1, 7);
        is(d.x.lead(), 7 - 5 + 1);
        is(d.x.pairs(NONE), 5);
        cheapest(d, 6 + 13, 2);
        is(d.x.lead(), 7 - 5 + 1);
        is(d.x.side(), 1);
        is(d.x.pairs(1), NONE);
        cheapest(d, 6 + 13, 2);
        d.store("run level 3 of 1 1");
        cheapest(d, 6 + 8 + 14, 2);
        is(d.x.lead(), 5 - 1 + 7 - 1);
    }

    // By halves.
    static void promise27_byHalves() {
        cheapest(sized(2, 2, 2, 2), 16, 2);
        cheapest(sized(1, 1, 1, 1, 1, 1, 1, 1), 24, 4);
    }

    // Of twelve.
    static void promise27_ofTwelve() {
        cheapest(sized(1, 1, 1, 1, 1, 1, 1, 1, 1, 1, 1, 1), 44, 4);
        cheapest(sized(20, 1, 1, 1, 1, 1, 1, 1, 1, 1, 1, 1), 11 * 3 + 2 * 3 + 31, 1);
    }
}
