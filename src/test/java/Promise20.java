/** tune: FAN, SIZE or PACE is told. */
final class Promise20 extends Promise {
    private static Desk busy() {
        return of("fan 2; pace 1; size 4; tick 3; run level 0 of 1 1; run level 0 of 2 2; table 9 9");
    }

    // NoSuchElementException: another what; ahead of n that is none.
    static void promise20_anotherWhat() {
        for (int what : new int[] {-1, 3, 4, LEAST, GREATEST}) {
            Desk d = busy();
            refusesAndKeeps(d, NO_SUCH, () -> d.x.tune(what, 3));
            refuses(NO_SUCH, () -> d.x.tune(what, 99));
            refuses(NO_SUCH, () -> d.x.tune(what, -1));
        }
    }

    // IllegalArgumentException: n is none: FAN 2 to 4; the JOB is not given up.
    static void promise20_noFan() {
        for (int n : new int[] {1, 0, -1, 5, 6, LEAST, GREATEST}) {
            Desk d = busy();
            refusesAndKeeps(d, BAD, () -> d.x.tune(0, n));
            is(d.job(), "1 3 1 2 1");
        }
    }

    // SIZE 2 to 6.
    static void promise20_noSize() {
        for (int n : new int[] {1, 0, -1, 7, 8, LEAST, GREATEST}) {
            Desk d = busy();
            refusesAndKeeps(d, BAD, () -> d.x.tune(1, n));
        }
    }

    // PACE 0 to 9.
    static void promise20_noPace() {
        for (int n : new int[] {-1, -2, 10, 11, LEAST, GREATEST}) {
            Desk d = busy();
            refusesAndKeeps(d, BAD, () -> d.x.tune(2, n));
        }
    }

    // FAN (what 0), SIZE (1), PACE (2) is told: what it was; each number that there is.
    static void promise20_whatItWas() {
        RunLedger x = new RunLedger();
        int was = 3;
        for (int n = 2; n <= 4; n++) {
            is(x.tune(0, n), was);
            is(x.count(5), n);
            was = n;
        }
        was = 4;
        for (int n = 2; n <= 6; n++) {
            is(x.tune(1, n), was);
            is(x.count(6), n);
            was = n;
        }
        was = 2;
        for (int n = 0; n <= 9; n++) {
            is(x.tune(2, n), was);
            is(x.count(7), n);
            was = n;
        }
        is(x.count(5), 4);
        is(x.count(6), 6);
    }

    // A JOB is given up by FAN and SIZE, also if it is so already.
    static void promise20_givesTheJobUp() {
        int[][] all = {{0, 3}, {0, 2}, {1, 5}, {1, 4}};
        for (int[] one : all) {
            Desk d = busy();
            d.x.tune(one[0], one[1]);
            is(d.job(), "-1 -1 -1 -1 -1");
            is(d.logged(), "3 3 1 1; 3 1 1 2");
        }
    }

    // By PACE none is given up.
    static void promise20_paceGivesNoJobUp() {
        for (int n : new int[] {1, 0, 9}) {
            Desk d = busy();
            is(d.x.tune(2, n), 1);
            is(d.job(), "1 3 1 2 1");
            is(d.x.led(3, false), 0);
        }
    }

    // By SIZE told lower the TABLE is not FLUSHED; by FAN told lower no JOB begins.
    static void promise20_nothingElse() {
        Desk d = of("size 6; fan 3; table 1 1 2 2 3 3; run level 0 of 1 1; run level 0 of 2 2");
        d.x.tune(1, 2);
        is(d.x.count(1), 3);
        is(d.x.count(0), 2);
        d.x.tune(0, 2);
        is(d.x.level(0, 2), 1);
        is(d.job(), "-1 -1 -1 -1 -1");
        is(d.logged(), "");
    }
}
