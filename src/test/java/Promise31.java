/** look: LOOK. */
final class Promise31 extends Promise {
    // The KEY by whose VALUE those that fit are parted so that the greatest part is the least.
    static void promise31_theGreatestPartIsTheLeast() {
        Desk d = of("run level 0 of 8 7 9 1; run level 0 of 8 7; run level 0 of 8 8 9 3; run level 0 of 8 8 9 2");
        is(d.tape().x.look(), 9);
        Desk e = of("run level 0 of 8 7 9 1; run level 0 of 8 7 9 1; run level 0 of 8 8 9 1; run level 0 of 8 8 9 2");
        is(e.tape().x.look(), 8);
    }

    // None is one, too, and removed is another one.
    static void promise31_noneIsOneToo() {
        is(of("run level 0 of 7 7 9 1; run level 0 of 9 1").tape().x.look(), 7);
        is(of("run level 0 of 7 1 9 100; run level 0 of 7 1").tape().x.look(), 9);
        is(of("run level 0 of 7 1 9 100; run level 0 of 7 1; run level 0 of 7 2 9 5").tape().x.look(), 9);
    }

    // Of several the least KEY; 0 if none parts them.
    static void promise31_ofSeveralTheLeast() {
        is(of("run level 0 of 7 7 9 1; run level 0 of 7 8 9 2").tape().x.look(), 7);
        is(of("run level 0 of 7 7; run level 0 of 7 7").tape().x.look(), 0);
        is(sized(1, 1, 1, 1, 1, 1, 1, 1, 1, 1, 1, 1).tape().x.look(), 0);
    }

    // KEYS 0 to 59.
    static void promise31_leastAndGreatestKey() {
        is(of("run level 0 of 5 5 59 1; run level 0 of 5 5 59 2").tape().x.look(), 59);
        is(of("run level 0 of 0 5 5 5; run level 0 of 0 6 5 5").tape().x.look(), 0);
    }

    // Those that fit alone: RUNS of which all rows are so, but for one at most.
    static void promise31_thoseThatFit() {
        Desk d = of("run level 0 of 1 1 2 2 8 7; run level 0 of 1 1 2 2 8 7 9 1; run level 0 of 1 5 2 5 8 3 9 1");
        is(d.tape(1, 1, 2, 2).x.look(), 9);
        is(d.tape().x.look(), 1);
        // With one wrong row the third one fits, too.
        is(d.tape(1, 1).x.look(), 1);
    }

    // None with fewer than two.
    static void promise31_fewerThanTwo() {
        is(new Desk().tape().x.look(), NONE);
        is(of("run level 0 of 1 1").tape().x.look(), NONE);
        Desk d = of("run level 0 of 1 1 2 2; run level 0 of 1 5 2 5");
        is(d.tape(1, 1, 2, 2).x.look(), NONE);
        is(d.tape(1, 7, 2, 7).x.look(), NONE);
        is(d.tape(1, 1, 2, 5).x.look(), 1);
    }

    // At most 40 bytes; the TAPE as for MAY BE.
    static void promise31_fortyBytes() {
        Desk d = of("run level 0 of 0 0 5 5; run level 0 of 0 0");
        is(d.tape(new int[40]).x.look(), 5);
        refuses(BAD, () -> d.tape(new int[42]).x.look());
    }

    // IllegalArgumentException: the TAPE is not that; it is used up, and changes nothing.
    static void promise31_notThat() {
        for (int[] wrong : Promise29.WRONG) {
            Desk d = of("run level 0 of 1 1; table 2 2");
            String before = d.all();
            refuses(BAD, () -> d.tape(wrong).x.look());
            is(d.all(), before);
            is(d.x.end(1), false);
        }
    }

    // Uses the TAPE up.
    static void promise31_usesTheTapeUp() {
        Desk d = of("run level 0 of 5 5; run level 0 of 0 0 5 6");
        d.tape(0, 101, 5, 5).x.look();
        is(d.x.end(1), false);
        is(d.x.look(), 0);
    }
}
