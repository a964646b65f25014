/** store: a text of THE STORE. */
final class Promise04 extends Promise {
    private static void right(String text) {
        Desk d = new Desk();
        is(d.store(text), 1);
        is(d.x.fault(), NONE);
        is(d.x.count(2), 1);
    }

    /** On a new object the text is wrong at that byte, and nothing of it stays. */
    private static void wrong(String text, int fault) {
        wrong(new Desk(), text, fault);
    }

    private static void wrong(Desk d, String text, int fault) {
        String before = d.state() + d.logged() + d.x.count(16);
        refuses(BAD, () -> d.store(text));
        is(d.x.fault(), fault);
        is(d.state() + d.logged() + d.x.count(16), before);
        is(d.x.end(1), false);
    }

    // A text that is empty has no LINE: it is a text.
    static void promise04_emptyText() {
        right("");
        Desk d = new Desk();
        d.store("");
        is(d.counts(), "0 0 1 -1 0 3 4 2 0 0 0 0 0 0 0 0 0");
    }

    // A text of blanks alone has no LINE: it is a text.
    static void promise04_blanksAlone() {
        right(" ");
        right(" ".repeat(400));
    }

    // Uses the TAPE up: by a text that is right.
    static void promise04_usesTheTapeUp() {
        Desk d = of("size 5");
        is(d.x.end(1), false);
        is(d.x.store(), 2);
    }

    // Uses the TAPE up: by a text that is wrong.
    static void promise04_wrongUsesTheTapeUp() {
        Desk d = new Desk();
        refuses(BAD, () -> d.store("size"));
        is(d.x.end(1), false);
        is(d.x.end(0), true);
    }

    // How many texts there are.
    static void promise04_howManyTexts() {
        Desk d = new Desk();
        is(d.store("size 5"), 1);
        refuses(BAD, () -> d.store("size 7"));
        is(d.store("fan 2"), 2);
        is(d.store(""), 3);
        d.law("pace 1");
        is(d.store("tiered"), 4);
    }

    // UnsupportedOperationException: there are 12: the twelfth is none too many.
    static void promise04_twelveTexts() {
        Desk d = new Desk();
        for (int i = 1; i <= 11; i++) {
            is(d.store(""), i);
        }
        is(d.store("size 5"), 12);
        is(d.x.count(6), 5);
        is(d.x.count(2), 12);
    }

    // UnsupportedOperationException: there are 12: it uses the TAPE up and changes nothing else.
    static void promise04_thirteenthText() {
        Desk d = new Desk();
        for (int i = 1; i <= 12; i++) {
            d.store("");
        }
        d.x.put(1, 1);
        String before = d.all();
        refuses(FULL, () -> d.store("size 2; run level 0 of 1 1; table 5 5; levelled; tick 7"));
        is(d.all(), before);
        is(d.x.end(1), false);
        refuses(FULL, () -> d.store(""));
        is(d.all(), before);
    }

    // Of several exceptions the one told first: of a wrong text IllegalArgumentException, also if there are 12.
    static void promise04_wrongThirteenthText() {
        Desk d = new Desk();
        for (int i = 1; i <= 12; i++) {
            d.store("");
        }
        refuses(BAD, () -> d.store("size 7"));
        is(d.x.fault(), 5);
        is(d.x.count(2), 12);
    }

    // [ LINE { ; LINE } ], at most 14.
    static void promise04_fourteenLines() {
        right(times(14, "pace 1", ";"));
        right(times(13, "pace 1", ";") + ";size 2");
        Desk d = new Desk();
        d.store(times(13, "pace 1", ";") + ";size 2");
        is(d.x.count(6), 2);
    }

    // Of a LINE too many, the first word.
    static void promise04_fifteenthLine() {
        wrong(times(15, "pace 1", ";"), 98);
        wrong(times(14, "pace 1", ";") + " ;  pace 1", 101);
        wrong(times(14, "pace 1", ";") + ";run level 0 of 1 1", 98);
    }

    // Behind the 14th LINE and a ; more must come: the text's length.
    static void promise04_nothingBehindTheFourteenthLine() {
        wrong(times(14, "pace 1", ";") + ";", 98);
        wrong(times(14, "pace 1", ";") + ";  ", 100);
    }

    // { ; LINE }: a ; ahead of all, behind all, or two of them.
    static void promise04_semicolons() {
        wrong(";", 0);
        wrong(" ;", 1);
        wrong(";size 4", 0);
        wrong("size 4;", 7);
        wrong("size 4;  ", 9);
        wrong("size 4;;fan 2", 7);
        wrong("size 4; ; fan 2", 8);
        wrong("size 4 fan 2", 7);
        wrong("size 4, fan 2", 6);
        wrong("size 4 5", 7);
        wrong("tiered 1", 7);
        wrong("tiered tiered", 7);
        right("tiered;levelled");
    }

    // A word that is none; a word of THE LAW; a word that begins no LINE.
    static void promise04_wordsThatAreNone() {
        wrong("tiers", 0);
        wrong("sizes 4", 0);
        wrong("siz 4", 0);
        wrong("Size 4", 0);
        wrong("siZe 4", 0);
        wrong("cost 4", 0);
        wrong("worth 4", 0);
        wrong("level 1", 0);
        wrong("of 1", 0);
        wrong("busy", 0);
        wrong("if", 0);
        wrong("4", 0);
        wrong("(", 0);
        wrong("size 2; sizes 3", 8);
        wrong("size 2; 3", 8);
    }

    // Words are as long as a to z go on.
    static void promise04_wordsEndWhereLettersEnd() {
        right("size4;fan2;pace1;tick9");
        right("run level0of1 1");
        wrong("runlevel 0 of 1 1", 0);
        wrong("run levelof 1 1", 4);
        wrong("run level 0 of1 1;tieredtiered", 18);
        right("levelled;tiered");
    }

    // Between all there may be blanks, also ahead and behind; nothing else is a blank.
    static void promise04_blanks() {
        right("   size   4   ;   fan   2   ");
        right(" run  level  0  of  1  1  2  2 ; table 3 3 ");
        wrong("\tsize 4", 0);
        wrong("size\t4", 4);
        wrong("size 4\n", 6);
        wrong("size 4\0", 6);
        wrong("size\u00a04", 4);
        wrong("s ize 4", 0);
        wrong("size 4;fan 2 2", 13);
    }

    // A number that two digits parted by a blank do not make.
    static void promise04_digitsParted() {
        wrong("tick 9 9", 7);
        right("tick 99");
    }

    // Numbers are of 1 to 3 digits.
    static void promise04_digits() {
        right("size 4");
        right("size 04");
        right("size 004");
        wrong("size 0004", 5);
        right("run level 000 of 001 001");
        wrong("run level 0000 of 1 1", 10);
        wrong("run level 0 of 0001 1", 15);
        wrong("run level 0 of 1 0001", 17);
        wrong("table 1 1 0002 2", 10);
        wrong("tick 00999999999999999999", 5);
        wrong("size", 4);
        wrong("size ", 5);
        wrong("size x", 5);
        wrong("size -4", 5);
        wrong("size +4", 5);
        wrong("size ;", 5);
    }

    // size 2 to 6.
    static void promise04_sizeBounds() {
        for (int n = 2; n <= 6; n++) {
            is(of("size " + n).x.count(6), n);
        }
        wrong("size 1", 5);
        wrong("size 0", 5);
        wrong("size 7", 5);
    }

    // fan 2 to 4.
    static void promise04_fanBounds() {
        for (int n = 2; n <= 4; n++) {
            is(of("fan " + n).x.count(5), n);
        }
        wrong("fan 1", 4);
        wrong("fan 5", 4);
        wrong("fan", 3);
    }

    // pace 0 to 9.
    static void promise04_paceBounds() {
        for (int n = 0; n <= 9; n++) {
            is(of("pace " + n).x.count(7), n);
        }
        wrong("pace 10", 5);
        wrong("pace", 4);
        wrong("pace 3 if busy", 7);
    }

    // tick 0 to 999.
    static void promise04_tickBounds() {
        is(of("tick 999").x.count(14), 999);
        is(of("tick 999", "tick 0").x.count(14), 0);
        wrong("tick 1000", 5);
        wrong("tick", 4);
    }

    // tiered | levelled.
    static void promise04_plans() {
        is(of("levelled").x.count(4), 1);
        is(of("levelled;tiered").x.count(4), 0);
        is(of("tiered").x.count(4), 0);
    }

    // The LINES hold one behind another.
    static void promise04_linesInTheirOrder() {
        Desk d = of("size 5; size 3; fan 4; fan 2; pace 9; pace 0; tick 4; tick 3");
        is(d.counts(), "0 0 1 -1 0 2 3 0 0 0 0 0 0 0 3 0 0");
        // The TABLE is flushed by the SIZE that holds then, at the TICK that is then.
        Desk e = of("tick 8; table 1 1 2 2 3 3; size 2; tick 9; table 1 4; tick 5");
        is(e.logged(), "9 0 0 3");
    }

    // run level N of N N { N N }: what must come.
    static void promise04_runNeeds() {
        wrong("run", 3);
        wrong("run 0", 4);
        wrong("run of", 4);
        wrong("run level", 9);
        wrong("run level of 1 1", 10);
        wrong("run level 0", 11);
        wrong("run level 0 1 1", 12);
        wrong("run level 0;", 11);
        wrong("run level 0 of", 14);
        wrong("run level 0 of ", 15);
        wrong("run level 0 of;", 14);
        wrong("run level 0 of x", 15);
        wrong("run level 0 of 1", 16);
        wrong("run level 0 of 1;", 16);
        wrong("run level 0 of 1 1 2", 20);
        wrong("run level 0 of 1 1 2;", 20);
        wrong("run level 0 of 1 1 x", 19);
        wrong("run level 0 of 1 1, 2 2", 18);
    }

    // A LEVEL 0 to 3.
    static void promise04_levelOfARun() {
        for (int level = 0; level <= 3; level++) {
            is(of("run level " + level + " of 1 1").x.run(0, 0), level);
        }
        wrong("run level 4 of 1 1", 10);
        wrong("run level 10 of 1 1", 10);
    }

    // No less than that of the oldest RUN, else it is wrong at it: in one text.
    static void promise04_levelNoLessInOneText() {
        right("run level 1 of 1 1;run level 1 of 1 1");
        right("run level 1 of 1 1;run level 3 of 1 1");
        wrong("run level 1 of 1 1;run level 0 of 1 1", 29);
        wrong("run level 3 of 1 1;run level 2 of 1 1", 29);
        wrong("run level 0 of 1 1;run level 2 of 1 1;run level 1 of 1 1", 48);
    }

    // No less than that of the oldest RUN: of a text before; of the oldest, not of the newest.
    static void promise04_levelNoLessThanThatOfTheOldest() {
        wrong(of("run level 2 of 1 1"), "run level 1 of 1 1", 10);
        is(of("run level 2 of 1 1", "run level 2 of 1 1").levels(), "2 2");
        wrong(of("run level 0 of 1 1; run level 2 of 1 1"), "run level 1 of 1 1", 10);
        // The TABLE is flushed ahead of the RUN: the oldest is still that of LEVEL 2.
        wrong(of("run level 2 of 1 1"), "size 2; table 1 1 2 2; run level 0 of 1 1", 33);
    }

    // No less than that of the oldest RUN, as it is by then: the TABLE was flushed, a JOB has ended.
    static void promise04_levelNoLessAsItIsByThen() {
        right("size 2; table 1 1 2 2; run level 0 of 1 1");
        // Two RUNS of LEVEL 0 become one of LEVEL 1 by the slices of this LINE.
        wrong("fan 2;pace 9;run level 0 of 1 1;run level 0 of 2 2;table 9 9;run level 0 of 3 3", 71);
        right("fan 2;pace 9;run level 0 of 1 1;run level 0 of 2 2;table 9 9;run level 1 of 3 3");
        // All entries were removed, so that no RUN is left.
        right("fan 2;pace 9;run level 3 of 1 100;run level 3 of 2 100;table 9 9;run level 0 of 3 3");
    }

    // KEYS 0 to 59.
    static void promise04_keysOfARun() {
        is(of("run level 0 of 0 7 59 8").row(0), "0:7/0 59:8/0");
        wrong("run level 0 of 60 1", 15);
        wrong("run level 0 of 1 1 60 1", 19);
        wrong("run level 0 of 999 1", 15);
    }

    // A KEY that is above the one before it in that LINE, else it is wrong at it.
    static void promise04_keysRise() {
        right("run level 0 of 5 1 6 2");
        wrong("run level 0 of 5 1 5 2", 19);
        wrong("run level 0 of 5 1 4 2", 19);
        wrong("run level 0 of 59 1 59 2", 20);
        wrong("run level 0 of 59 1 60 2", 20);
        wrong("run level 0 of 5 1 5", 19);
        right("run level 0 of 5 1; run level 0 of 1 1");
    }

    // A VALUE 0 to 100.
    static void promise04_valuesOfARun() {
        is(of("run level 0 of 1 0 2 99 3 100").row(0), "1:0/0 2:99/0 3:100/0");
        wrong("run level 0 of 1 101", 17);
        wrong("run level 0 of 1 1 2 101", 21);
    }

    // At most 20 of these, else it is wrong at the KEY of the 21st one.
    static void promise04_twentyOfARun() {
        String twenty = "run level 0 of " + row(10, 20);
        right(twenty);
        is(of(twenty).x.run(0, 1), 20);
        int next = twenty.length() + 1;
        wrong(twenty + " 30 1", next);
        wrong(twenty + " 30", next);
        wrong(twenty + " 30 101", next);
        wrong(twenty + " 29 1", next);
        wrong(twenty + " 60 1", next);
        wrong(twenty + "  0030 1", next + 1);
        wrong(twenty + " x", next);
        right(twenty + "; run level 0 of 30 1");
    }

    // The RUN is older than all that there are; REWRITES 0.
    static void promise04_runIsOlderThanAll() {
        Desk d = of("run level 0 of 1 1; run level 0 of 2 2", "run level 0 of 3 3; run level 1 of 4 4");
        is(d.row(0) + " " + d.row(1) + " " + d.row(2) + " " + d.row(3), "1:1/0 2:2/0 3:3/0 4:4/0");
        is(d.levels(), "0 0 0 1");
        is(d.x.count(8) + d.x.count(9) + d.x.count(10), 0);
        is(d.logged(), "");
    }

    // RUNS (at most 12); of a RUN too many, the first word.
    static void promise04_twelveRuns() {
        String twelve = times(12, "run level 3 of 1 1", ";");
        right(twelve);
        is(of(twelve).x.count(0), 12);
        wrong(twelve + ";run level 3 of 1 1", 228);
        wrong(twelve + "; run level 3 of 1 1", 229);
        wrong(twelve + ";run", 228);
        wrong(twelve + ";run level 9", 228);
        wrong(of(twelve), "pace 1; run level 3 of 1 1", 8);
    }

    // Of a RUN too many, as many as there are by then: by the TABLE that was flushed, by a JOB that has ended.
    static void promise04_twelveRunsByThen() {
        String three = times(3, "run level 0 of 1 1", ";");
        Desk d = of("fan 4;pace 0;size 2;" + three + ";" + three.replace('0', '1') + ";" + three.replace('0', '2')
                + ";run level 3 of 1 1;run level 3 of 1 1");
        is(d.x.count(0), 11);
        wrong(d, "table 1 1 2 2; run level 3 of 1 1", 15);
        is(d.store("pace 9; table 1 1; run level 3 of 1 1; run level 3 of 1 1"), 2);
        is(d.x.count(0), 12);
    }

    // table N N { N N }: what must come.
    static void promise04_tableNeeds() {
        wrong("table", 5);
        wrong("table 1", 7);
        wrong("table;", 5);
        wrong("table 1 1 2", 11);
        wrong("table 1 1 2;", 11);
        wrong("table of 1 1", 6);
        wrong("table x", 6);
    }

    // A KEY and a VALUE (100: it is removed).
    static void promise04_tableBounds() {
        is(of("table 0 0 59 99 30 100").row(NONE), "0:0/0 30:100/0 59:99/0");
        wrong("table 60 1", 6);
        wrong("table 1 101", 8);
        wrong("table 1 1 60 1", 10);
        wrong("table 1 1 2 101", 12);
    }

    // In any order, one KEY as often as it may be, each by itself a WRITE: PUTS.
    static void promise04_tableInAnyOrder() {
        Desk d = of("table 9 1 3 2 9 3 3 100 9 4");
        is(d.row(NONE), "3:100/0 9:4/0");
        is(d.x.count(10), 5);
        is(of("table 59 1 0 2").row(NONE), "0:2/0 59:1/0");
        is(of("table 0 1 0 2").row(NONE), "0:2/0");
    }

    // At most 12, else it is wrong at the KEY of the 13th one.
    static void promise04_twelveOfATable() {
        String twelve = "table " + times(12, "7 1", " ");
        right(twelve);
        is(of(twelve).x.count(10), 12);
        wrong(twelve + " 7 1", twelve.length() + 1);
        wrong(twelve + " 7", twelve.length() + 1);
        wrong(twelve + " 60 1", twelve.length() + 1);
        right(twelve + "; table 7 1");
    }

    // A WRITE as by the ACT: stalls, BILL, THE LOG likewise.
    static void promise04_tableWritesAsByTheAct() {
        String begin = "fan 2; size 2; pace 0; run level 0 of 1 1; run level 0 of 2 2; run level 0 of 3 3; run level 0 of 4 4; tick 7";
        Desk by = of(begin, "table 5 5 6 6 7 100 8 8 9 9");
        Desk hand = of(begin, "");
        hand.x.put(5, 5);
        hand.x.put(6, 6);
        hand.x.remove(7);
        hand.x.put(8, 8);
        hand.x.put(9, 9);
        is(by.state(), hand.state());
        is(by.logged(), hand.logged());
        is(by.x.count(11), 4);
        is(by.x.count(12), 4);
        is(by.x.count(13) > 4, true);
        is(by.x.count(14), 7);
        is(by.x.count(10), 5);
    }

    private static Desk busy() {
        Desk d = of("fan 2; pace 1; tick 5; run level 0 of 1 1 2 2 3 3; run level 0 of 4 4", "tick 6");
        d.x.work();
        is(d.job(), "1 3 1 2 3");
        return d;
    }

    // By size, fan, tiered, levelled (also as it is already) and run a JOB, if there is one, is given up.
    static void promise04_givesAJobUp() {
        String[] lines = {"size 5", "size 4", "fan 3", "fan 2", "tiered", "levelled", "run level 3 of 9 9"};
        for (String line : lines) {
            Desk d = busy();
            d.store(line);
            is(d.job(), "-1 -1 -1 -1 -1");
            is(d.row(99), "");
            is(d.x.run(0, 3), 0);
            is(d.row(0), "1:1/0 2:2/0 3:3/0");
            is(d.logged(), "6 3 1 1; 6 1 1 4");
        }
        Desk twice = busy();
        twice.store("levelled; levelled");
        is(twice.logged(), "6 3 1 1; 6 1 1 4");
    }

    // By no other LINE a JOB is given up.
    static void promise04_givesNoJobUp() {
        for (String line : new String[] {"pace 1", "pace 0", "tick 9", "", "pace 0; table 9 9"}) {
            Desk d = busy();
            d.store(line);
            is(d.job(), "1 3 1 2 3");
        }
    }

    // If there is one: without a JOB none is given up.
    static void promise04_noJobToGiveUp() {
        is(of("size 4; fan 3; tiered; levelled; run level 0 of 1 1").logged(), "");
    }

    // By run, size, fan, tiered, levelled no JOB begins.
    static void promise04_noJobBegins() {
        Desk d = of("fan 2; run level 0 of 1 1; run level 0 of 2 2; run level 0 of 3 3; size 2; levelled; tiered; pace 9; tick 1");
        is(d.job(), "-1 -1 -1 -1 -1");
        is(d.logged(), "");
        is(d.x.count(13), 0);
    }

    // Of a wrong text nothing stays: of no LINE ahead of the wrong byte.
    static void promise04_ofAWrongTextNothingStays() {
        Desk d = busy();
        d.x.put(40, 4);
        for (String line : new String[] {"size 2", "fan 4", "levelled", "tiered", "pace 7", "tick 77", "run level 2 of 5 5",
            "table 1 1 2 2 3 3 4 4 5 5 6 6"}) {
            wrong(busy(), line + ";x", line.length() + 1);
        }
        wrong(d, "size 2;levelled;pace 7;tick 9;run level 2 of 5 5;table 1 1 2 2;fan 2 2", 69);
    }

    // A text of 400 bytes is read to its end.
    static void promise04_aTextOfFourHundredBytes() {
        String text = " ".repeat(394) + "size 2";
        right(text);
        is(of(text).x.count(6), 2);
        wrong(" ".repeat(395) + "size ", 400);
    }
}
