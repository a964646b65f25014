/** ticks: so many TICKS more. */
final class Promise13 extends Promise {
    /** SEED behind so many DRAWS, told by its bits. */
    private static int seedAfter(int seed, int draws) {
        long now = seed;
        for (int i = 0; i < draws; i++) {
            now = (1103515245L * now + 12345L) % (1L << 32);
            now = now < 0 ? now + (1L << 32) : now;
        }
        return (int) now;
    }

    /** The n-th DRAW from that SEED on (the first is 1): bits 16 to 30. */
    private static int draw(int seed, int n) {
        return (int) ((seedAfter(seed, n) & 0xffffffffL) / 65536 % 32768);
    }

    /** One TICK from that SEED on is as the DRAWS say. */
    private static void tick(int seed) {
        Desk d = new Desk();
        d.x.seed(seed);
        is(d.x.ticks(1), 0);
        boolean removed = draw(seed, 2) % 4 == 0;
        int value = removed ? 100 : draw(seed, 3) % 100;
        is(d.row(NONE), draw(seed, 1) % 60 + ":" + value + "/0");
        is(d.x.seed(1), seedAfter(seed, removed ? 2 : 3));
        is(d.x.count(14), 1);
        is(d.x.count(10), 1);
    }

    // A KEY: DRAW modulo 60; if the next DRAW modulo 4 is 0 it is removed, else put with the next DRAW modulo 100.
    static void promise13_draws() {
        int removed = 0;
        for (int seed = 1; seed <= 40; seed++) {
            tick(seed);
            removed += draw(seed, 2) % 4 == 0 ? 1 : 0;
        }
        is(removed > 0 && removed < 40, true);
    }

    // SEED as an int that goes round; bits 16 to 30: also of a SEED below 0, and of the least and the greatest.
    static void promise13_seedGoesRound() {
        for (int seed : new int[] {0, -1, -2, LEAST, GREATEST, LEAST + 1, 0x7fff0000, 0x80007fff, -123456789, 987654321}) {
            tick(seed);
        }
    }

    // SEED 1 at first: the first TICK of a new object, worked out by hand.
    static void promise13_firstTick() {
        // 1103515245 + 12345 = 1103527590; by 65536 16838, modulo 60 38.
        is(draw(1, 1), 16838);
        Desk d = new Desk();
        d.x.ticks(1);
        is(d.x.entry(NONE, 0, 0), 38);
    }

    // IllegalArgumentException: they are none (1 to 60).
    static void promise13_noNumber() {
        for (int n : new int[] {0, -1, 61, 62, 100, LEAST, GREATEST}) {
            Desk d = of("size 2; fan 2; run level 0 of 1 1; table 3 3");
            d.x.ticks(5);
            refusesAndKeeps(d, BAD, () -> d.x.ticks(n));
        }
    }

    // So many TICKS more: 1, and 60; TICK is 1 more with each.
    static void promise13_oneAndSixty() {
        Desk d = new Desk();
        d.x.ticks(1);
        is(d.x.count(14), 1);
        is(d.x.count(10), 1);
        d.x.ticks(60);
        is(d.x.count(14), 61);
        is(d.x.count(10), 61);
        d.store("tick 500");
        d.x.ticks(7);
        is(d.x.count(14), 507);
    }

    // 20 TICKS of one call are as 20 calls.
    static void promise13_oneByOne() {
        String store = "size 2; fan 2; pace 1";
        Desk one = of(store);
        Desk other = of(store);
        one.x.ticks(20);
        int stalls = 0;
        for (int i = 0; i < 20; i++) {
            stalls += other.x.ticks(1);
        }
        is(one.state(), other.state());
        is(one.logged(), other.logged());
        is(one.x.count(11), stalls);
    }

    // How often it stalled in these: those of all its WRITES, not those before.
    static void promise13_howOftenItStalled() {
        Desk d = of("size 2; fan 2; pace 0");
        int before = 0;
        int most = 0;
        for (int i = 0; i < 6; i++) {
            int stalls = d.x.ticks(30);
            is(d.x.count(11), before + stalls);
            before += stalls;
            most = Math.max(most, stalls);
        }
        is(most > 20, true);
        is(d.x.count(12) < most, true);
    }

    // A WRITE comes ahead of the TICK: THE LOG has the TICK that was.
    static void promise13_tickIsMoreBehindTheWrite() {
        Desk d = of("size 2; tick 40; table 59 1");
        d.x.ticks(1);
        is(d.logged(), "40 0 0 2");
        is(d.x.count(14), 41);
    }

    // TICK 9999 at most; the WRITES go on.
    static void promise13_tickAtMost() {
        Desk d = of("size 6; fan 4; pace 9; tick 999");
        for (int i = 0; i < 149; i++) {
            d.x.ticks(60);
        }
        is(d.x.count(14), 9939);
        d.x.ticks(59);
        is(d.x.count(14), 9998);
        d.x.ticks(1);
        is(d.x.count(14), 9999);
        d.x.ticks(1);
        is(d.x.count(14), 9999);
        d.x.ticks(60);
        is(d.x.count(14), 9999);
        is(d.x.count(10), 9061);
        is(d.x.log(0, 0), 9999);
    }
}
