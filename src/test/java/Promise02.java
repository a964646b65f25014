/** feed: twenty bytes come behind the TAPE. */
final class Promise02 extends Promise {
    private static final int BLANKS = 0x20202020;

    private static RunLedger fed(int times) {
        RunLedger x = new RunLedger();
        for (int i = 1; i <= times; i++) {
            is(x.feed(BLANKS, BLANKS, BLANKS, BLANKS, BLANKS), 20 * i);
        }
        return x;
    }

    // Twenty bytes come behind the TAPE, of each number the highest first.
    static void promise02_ofEachNumberTheHighestFirst() {
        RunLedger x = new RunLedger();
        // "size 6; fan 2; pace 9", one byte of which is told by a second call.
        is(x.feed(0x73697a65, 0x20363b20, 0x66616e20, 0x323b2070, 0x61636520), 20);
        is(x.feed(0x39000000, 0, 0, 0, 0), 40);
        is(x.end(21), true);
        is(x.store(), 1);
        is(x.count(6), 6);
        is(x.count(5), 2);
        is(x.count(7), 9);
    }

    // Bytes are 0 to 255: also of a number below 0, and in each of the four places.
    static void promise02_bytesAbove127() {
        for (int place = 0; place < 4; place++) {
            RunLedger x = new RunLedger();
            x.feed(BLANKS, BLANKS, BLANKS, BLANKS, BLANKS ^ 0xdf << 24 - 8 * place);
            refuses(BAD, x::store);
            is(x.fault(), 16 + place);
        }
        Desk d = of("run level 0 of 1 1");
        d.x.feed(-1, -1, -1, -1, -1);
        d.x.end(2);
        refuses(BAD, d.x::may);
    }

    // How many it has: behind those that end left.
    static void promise02_behindWhatEndLeft() {
        RunLedger x = fed(2);
        is(x.end(7), true);
        // "size 5" behind seven blanks.
        is(x.feed(0x73697a65, 0x20352020, BLANKS, BLANKS, BLANKS), 27);
        is(x.store(), 1);
        is(x.count(6), 5);
    }

    // NONE, and none come, if it would have more than 400: 400 may be.
    static void promise02_fourHundredMayBe() {
        RunLedger x = fed(20);
        is(x.end(400), true);
        is(x.store(), 1);
    }

    // NONE, and none come, if it would have more than 400: 420.
    static void promise02_noneComeBehindFourHundred() {
        RunLedger x = fed(20);
        is(x.feed(0x3b3b3b3b, 0x3b3b3b3b, 0x3b3b3b3b, 0x3b3b3b3b, 0x3b3b3b3b), NONE);
        is(x.end(401), false);
        is(x.store(), 1);
        is(x.fault(), NONE);
    }

    // NONE, and none come, if it would have more than 400: 401, and not one of the twenty comes.
    static void promise02_noneComeIfOneWouldBeTooMany() {
        RunLedger x = fed(20);
        is(x.end(381), true);
        is(x.feed(0x3b3b3b3b, 0x3b3b3b3b, 0x3b3b3b3b, 0x3b3b3b3b, 0x3b3b3b3b), NONE);
        is(x.end(382), false);
        is(x.end(381), true);
        is(x.store(), 1);
        is(x.fault(), NONE);
    }

    // 380 and 20 are 400, and the last byte is read.
    static void promise02_theLastByteOfFourHundred() {
        RunLedger x = fed(19);
        is(x.feed(BLANKS, BLANKS, BLANKS, BLANKS, 0x2020203b), 400);
        refuses(BAD, x::store);
        is(x.fault(), 399);
    }

    // Behind a text that was used up the TAPE begins anew.
    static void promise02_anewBehindAText() {
        RunLedger x = fed(20);
        is(x.store(), 1);
        is(x.feed(BLANKS, BLANKS, BLANKS, BLANKS, BLANKS), 20);
    }
}
