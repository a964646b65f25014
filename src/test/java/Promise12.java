/** slice: PACE, DEBT by 8, rounded down, and the sum of N of all pace LINES that hold. */
final class Promise12 extends Promise {
    // PACE, without DEBT and without a LAW.
    static void promise12_pace() {
        for (int pace = 0; pace <= 9; pace++) {
            is(of("pace " + pace).x.slice(), pace);
        }
    }

    // DEBT by 8, rounded down.
    static void promise12_debtByEight() {
        int[][] all = {{3, 4, 0}, {4, 4, 1}, {7, 8, 1}, {8, 8, 2}, {12, 11, 2}, {12, 12, 3}, {20, 20, 5}};
        for (int[] one : all) {
            Desk d = sized(one[0], one[1]);
            is(d.x.debt(), one[0] + one[1]);
            is(d.x.slice(), 2 + one[2]);
        }
    }

    // And the sum of N of all pace LINES that hold.
    static void promise12_linesThatHold() {
        Desk d = sized(8, 8).with("pace 3; pace 4 if debt > 15; pace 5 if debt > 16; pace 40; cost 9; worth 9");
        is(d.x.slice(), 2 + 2 + 3 + 4 + 40);
    }

    // As much as it can be: 9, and 12 LINES of 40.
    static void promise12_theMost() {
        is(of("pace 9").with(times(12, "pace 40", ";")).x.slice(), 9 + 480);
    }

    // A slice of so many entries: as SLICE is when it begins.
    static void promise12_asItIsWhenTheSliceBegins() {
        Desk d = sized(8, 8);
        is(d.x.slice(), 4);
        is(d.x.work(), 4);
        is(d.x.debt(), 8);
        is(d.x.slice(), 3);
        is(d.x.work(), 3);
        is(d.x.work(), 1);
    }
}
