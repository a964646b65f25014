/** span: the least and the greatest STALLED from SEED 1, 2, .. 6. */
final class Promise41 extends Promise {
    // IllegalArgumentException: N is none (0 to 60).
    static void promise41_noNumber() {
        for (int n : new int[] {-1, -2, 61, 62, LEAST, GREATEST}) {
            Desk d = of("table 1 1; run level 0 of 5 5");
            refusesAndKeeps(d, BAD, () -> d.x.span(n, false));
            refuses(BAD, () -> d.x.span(n, true));
        }
    }

    // Of 0 TICKS: STALLED as it is, both.
    static void promise41_ofNone() {
        is(new RunLedger().span(0, false), 0);
        is(new RunLedger().span(0, true), 0);
        Desk d = of("size 2; fan 2; pace 0");
        d.x.ticks(30);
        is(d.x.count(11) > 0, true);
        is(d.x.span(0, false), d.x.count(11));
        is(d.x.span(0, true), d.x.count(11));
    }

    private static int stalled(String text, int seed, int n) {
        Desk d = of(text);
        d.x.seed(4242);
        d.x.ticks(9);
        d.x.seed(seed);
        d.x.ticks(n);
        return d.x.count(11);
    }

    // The least (most false), or the greatest: of SEED 1, 2, .. 6, none of which is left out.
    static void promise41_sixSeeds() {
        boolean[] least = new boolean[7];
        boolean[] greatest = new boolean[7];
        for (int n = 6; n <= 60; n += 2) {
            for (int fan = 2; fan <= 4; fan++) {
                String text = "size " + (n % 3 + 2) + "; pace 0; fan " + fan;
                int[] all = new int[7];
                int low = GREATEST;
                int high = LEAST;
                for (int seed = 1; seed <= 6; seed++) {
                    all[seed] = stalled(text, seed, n);
                    low = Math.min(low, all[seed]);
                    high = Math.max(high, all[seed]);
                }
                int lows = 0;
                int highs = 0;
                for (int seed = 1; seed <= 6; seed++) {
                    lows += all[seed] == low ? 1 : 0;
                    highs += all[seed] == high ? 1 : 0;
                }
                for (int seed = 1; seed <= 6; seed++) {
                    least[seed] |= lows == 1 && all[seed] == low;
                    greatest[seed] |= highs == 1 && all[seed] == high;
                }
                Desk d = of(text);
                d.x.seed(4242);
                d.x.ticks(9);
                is(d.x.span(n, false), low);
                is(d.x.span(n, true), high);
            }
        }
        // By each of the six seeds alone the answer is what it is, somewhere above.
        for (int seed = 1; seed <= 6; seed++) {
            is(least[seed] || greatest[seed], true);
        }
    }

    // Nothing stays: SEED neither, nor an act.
    static void promise41_nothingStays() {
        Desk d = of("size 2; fan 2; pace 0; run level 0 of 1 1");
        d.x.seed(99);
        d.x.ticks(5);
        d.text("ab");
        String before = d.all();
        d.x.span(60, true);
        d.x.span(60, false);
        is(d.all(), before);
        is(d.x.end(2), true);
    }
}
