/** law: THE LAW, and what its LINES do. */
final class Promise05 extends Promise {
    private static void right(String text, int lines) {
        Desk d = new Desk();
        is(d.law(text), lines);
        is(d.x.fault(), NONE);
        is(d.x.count(3), lines);
    }

    /** The text is wrong at that byte, and the LAW before stays. */
    private static void wrong(String text, int fault) {
        Desk d = new Desk().with("pace 7; worth 3");
        d.x.put(1, 1);
        String before = d.state() + d.x.count(16);
        refuses(BAD, () -> d.law(text));
        is(d.x.fault(), fault);
        is(d.state() + d.x.count(16), before);
        is(d.x.end(1), false);
    }

    // A text that is empty has no LINE: a LAW of 0 LINES.
    static void promise05_emptyText() {
        RunLedger x = new RunLedger();
        is(x.law(), 0);
        is(x.fault(), NONE);
        is(x.count(3), 0);
    }

    // A text of blanks alone has no LINE.
    static void promise05_blanksAlone() {
        right(" ", 0);
        right(" ".repeat(400), 0);
    }

    // In place of the one before: also by a text without a LINE.
    static void promise05_inPlaceOfTheOneBefore() {
        Desk d = new Desk().with("pace 7; cost 3; worth 2");
        is(d.x.slice(), 9);
        is(d.law("pace 4"), 1);
        is(d.x.slice(), 6);
        is(d.x.level(0, 3), 10);
        is(d.law(""), 0);
        is(d.x.slice(), 2);
        is(d.x.count(3), 0);
    }

    // Uses the TAPE up, also of a wrong text.
    static void promise05_usesTheTapeUp() {
        Desk d = new Desk();
        d.law("pace 1");
        is(d.x.end(1), false);
        refuses(BAD, () -> d.law("pace"));
        is(d.x.end(1), false);
        is(d.x.count(3), 1);
    }

    // How many LINES.
    static void promise05_howManyLines() {
        right("pace 1", 1);
        right("pace 1; cost 2 if busy or full; worth 3", 3);
    }

    // LINE { ; LINE }, at most 12.
    static void promise05_twelveLines() {
        right(times(12, "pace 1", ";"), 12);
        is(new Desk().with(times(12, "pace 1", ";")).x.slice(), 14);
    }

    // Of a LINE too many, the first word.
    static void promise05_thirteenthLine() {
        wrong(times(13, "pace 1", ";"), 84);
        wrong(times(12, "pace 1", ";") + " ; tax", 86);
    }

    // Behind the 12th LINE and a ; more must come: the text's length.
    static void promise05_nothingBehindTheTwelfthLine() {
        wrong(times(12, "pace 1", ";") + ";", 84);
        wrong(times(12, "pace 1", ";") + "; ", 85);
    }

    // { ; LINE }.
    static void promise05_semicolons() {
        wrong(";", 0);
        wrong("  ;", 2);
        wrong("; pace 1", 0);
        wrong("pace 1;", 7);
        wrong("pace 1;;cost 1", 7);
        wrong("pace 1 cost 1", 7);
        wrong("pace 1, cost 1", 6);
        wrong("pace 1 if busy cost 1", 15);
    }

    // pace N | cost N | worth N: no other word.
    static void promise05_kindsOfLines() {
        right("pace 1", 1);
        right("cost 1", 1);
        right("worth 1", 1);
        wrong("tax 1", 0);
        wrong("size 4", 0);
        wrong("fan 2", 0);
        wrong("level 2", 0);
        wrong("busy", 0);
        wrong("if", 0);
        wrong("7", 0);
        wrong("Pace 1", 0);
        wrong("paces 1", 0);
        wrong("pac 1", 0);
        wrong("(", 0);
        wrong("pace 1; size 4", 8);
    }

    // N 0 to 40.
    static void promise05_boundsOfALine() {
        for (String kind : new String[] {"pace", "cost", "worth"}) {
            right(kind + " 0", 1);
            right(kind + " 40", 1);
            wrong(kind + " 41", kind.length() + 1);
            wrong(kind + " 999", kind.length() + 1);
            wrong(kind, kind.length());
            wrong(kind + "  ", kind.length() + 2);
            wrong(kind + " if busy", kind.length() + 1);
        }
        is(new Desk().with("pace 40").x.slice(), 42);
        is(new Desk().with("pace 0").x.slice(), 2);
    }

    // All numbers are of 1 to 3 digits.
    static void promise05_digits() {
        right("pace 001", 1);
        wrong("pace 0001", 5);
        right("pace 1 if 999 > 000", 1);
        wrong("pace 1 if 1000 > 0", 10);
        wrong("pace 1 if 0000 < 1", 10);
        wrong("pace 1 if tick > 0000", 17);
        wrong("pace 1 if tick > 1 + 1000", 21);
        wrong("pace 1 if tick > -1", 17);
        is(new Desk().with("pace 1 if 999 > 998").x.slice(), 3);
    }

    // [ if C ].
    static void promise05_ifNeeds() {
        wrong("pace 1 if", 9);
        wrong("pace 1 if ", 10);
        wrong("pace 1 if;", 9);
        wrong("pace 1 if if busy", 10);
        wrong("pace 1 of busy", 7);
        wrong("pace 1 busy", 7);
        wrong("pace 1 and busy", 7);
        wrong("pace 1 1", 7);
        wrong("pace 1 ifbusy", 7);
        right("pace 1if busy", 1);
        wrong("pace 1 if busy if full", 15);
    }

    // C: ALL { or ALL }; ALL: ATOM { and ATOM }.
    static void promise05_orAndNeed() {
        right("pace 1 if busy or full", 1);
        right("pace 1 if busy and full", 1);
        wrong("pace 1 if busy or", 17);
        wrong("pace 1 if busy and", 18);
        wrong("pace 1 if busy and ;", 19);
        wrong("pace 1 if or busy", 10);
        wrong("pace 1 if and busy", 10);
        wrong("pace 1 if busy or and full", 18);
        wrong("pace 1 if busy and or full", 19);
        wrong("pace 1 if busy full", 15);
        wrong("pace 1 if busyor full", 10);
    }

    // ATOM: not ATOM | ( C ).
    static void promise05_notAndBracketsNeed() {
        right("pace 1 if not busy", 1);
        right("pace 1 if not(busy)", 1);
        right("pace 1 if (busy)", 1);
        wrong("pace 1 if not", 13);
        wrong("pace 1 if not and busy", 14);
        wrong("pace 1 if busy not", 15);
        wrong("pace 1 if (", 11);
        wrong("pace 1 if ()", 11);
        wrong("pace 1 if (busy", 15);
        wrong("pace 1 if (busy;", 15);
        wrong("pace 1 if (busy or)", 18);
        wrong("pace 1 if busy)", 14);
        wrong("pace 1 if (busy))", 16);
        wrong("pace 1 if )", 10);
        wrong("pace 1 if (busy) (full)", 17);
        wrong("pace 1 if notbusy", 10);
    }

    // ATOM: busy | tiered | full | SUM < SUM | SUM > SUM.
    static void promise05_atoms() {
        right("pace 1 if tiered", 1);
        right("pace 1 if 1<2", 1);
        right("pace 1 if 2>1", 1);
        wrong("pace 1 if levelled", 10);
        wrong("pace 1 if size > 1", 10);
        wrong("pace 1 if pace > 1", 10);
        wrong("pace 1 if key", 10);
        wrong("pace 1 if level", 15);
        wrong("pace 1 if level;", 15);
        wrong("pace 1 if level <", 17);
        wrong("pace 1 if level < ;", 18);
        wrong("pace 1 if level = 2", 16);
        wrong("pace 1 if level <= 2", 17);
        wrong("pace 1 if level < < 2", 18);
        wrong("pace 1 if level < 2 < 3", 20);
        wrong("pace 1 if level 2", 16);
        wrong("pace 1 if < 2", 10);
        wrong("pace 1 if busy < 2", 15);
        wrong("pace 1 if 2 < busy", 14);
        wrong("pace 1 if 2 < not 3", 14);
        wrong("pace 1 if (level) < 3", 16);
        wrong("pace 1 if 3 < (level)", 14);
    }

    // SUM: PART { + PART }; PART: NUMBER | level | runs | entries | debt | table | fan | tick.
    static void promise05_sums() {
        right("pace 1 if level+runs+entries+debt+table+fan+tick+7 > 1+2", 1);
        wrong("pace 1 if level + > 3", 18);
        wrong("pace 1 if level + + 2 > 3", 18);
        wrong("pace 1 if + level > 3", 10);
        wrong("pace 1 if level > 3 +", 21);
        wrong("pace 1 if level > + 3", 18);
        wrong("pace 1 if level - 1 > 3", 16);
        wrong("pace 1 if level + busy > 3", 18);
        wrong("pace 1 if level > 3 + full", 22);
        wrong("pace 1 if 1 2 > 3", 12);
    }

    // ( and not within one another at most 6 deep: six of each, and of both.
    static void promise05_sixDeep() {
        right("pace 1 if ((((((busy))))))", 1);
        right("pace 1 if not not not not not not busy", 1);
        right("pace 1 if not(not(not(busy)))", 1);
        right("pace 1 if (not (not (not 1 < 2)))", 1);
    }

    // The ( or not that is a 7th one deep.
    static void promise05_sevenDeep() {
        wrong("pace 1 if (((((((busy)))))))", 16);
        wrong("pace 1 if not not not not not not not busy", 34);
        wrong("pace 1 if not(not(not(not busy)))", 22);
        wrong("pace 1 if (not (not (not (busy))))", 25);
        wrong("pace 1 if ((((((busy and not busy))))))", 25);
        wrong("pace 1 if ((((((1 < 2 or (busy)))))))", 25);
        wrong("pace 1 if (((((((", 16);
    }

    // Within one another: those that stand side by side are no deeper.
    static void promise05_sideBySide() {
        right("pace 1 if ((((((busy)))))) and ((((((busy)))))) or not not not not not not busy", 1);
        right("pace 1 if (((((not busy or not full) and not tiered)))) or (((((not 1 < 2)))))", 1);
        right("pace 1 if not busy and not busy and not busy and not busy and not busy and not busy and not busy", 1);
        right("pace 1 if (busy) and (busy) and (busy) and (busy) and (busy) and (busy) and (busy) and (busy)", 1);
        right("pace 1 if ((((((busy)))))); pace 1 if ((((((busy))))))", 2);
    }

    // As deep as it may be with all that can be told: it holds as it should.
    static void promise05_deepOnesHold() {
        Desk d = new Desk().with("pace 9 if 1<2 and (1>2 or 1<2 and (1>2 or 1<2 and (1>2 or 1<2 and (1>2 or 1<2 and (1>2 or 1<2 and"
                + " (1>2 or 1 + 2 + 3 < 1 + 2 + 3 + 1))))))");
        is(d.x.slice(), 11);
        d.law("pace 9 if 1<2 and (1>2 or 1<2 and (1>2 or 1<2 and (1>2 or 1<2 and (1>2 or 1<2 and (1>2 or 1<2 and"
                + " (1>2 or 1 + 2 + 3 < 1 + 2 + 3 + 0))))))");
        is(d.x.slice(), 2);
    }

    // A text of 400 bytes.
    static void promise05_aTextOfFourHundredBytes() {
        String sum = "pace 9 if " + times(194, "1", "+") + "<";
        right(sum + "2", 1);
        is(new Desk().with(sum + "2").x.slice(), 2);
        is(new Desk().with(sum.replace('<', '>') + "2").x.slice(), 11);
        wrong(sum + " ", 399);
        String deep = "pace 9 if " + times(78, "1<2", "or") + "";
        right(deep.substring(0, 10 + 77 * 5 + 3), 1);
    }

    /** A JOB to LEVEL 2; of that: RUNS 1, entries 6; DEBT 5, entries of the TABLE 3, FAN 4, TICK 213. */
    private static Desk told() {
        return of("fan 4;pace 0;size 5;tick 213;run level 1 of 1 1 2 2;run level 1 of 3 3;run level 1 of 4 4;run level 1 of 5 5;"
                + "run level 2 of 10 1 11 1 12 1 13 1 14 1 15 1;table 7 7 8 8 9 9");
    }

    private static void holds(String condition, boolean want) {
        is(told().with("pace 9 if " + condition).x.slice(), want ? 9 : 0);
    }

    private static void fact(String part, int value) {
        holds(part + " > " + (value - 1), true);
        holds(part + " > " + value, false);
        holds(part + " < " + (value + 1), true);
        holds(part + " < " + value, false);
        holds(value + " < " + part, false);
        holds(value + " < " + part + " + 1", true);
    }

    // level: of pace that to which the JOB goes.
    static void promise05_levelOfTheJob() {
        is(told().job(), "2 15 0 0 5");
        fact("level", 2);
    }

    // runs: how many RUNS it has.
    static void promise05_runs() {
        fact("runs", 1);
    }

    // entries: of these together.
    static void promise05_entries() {
        fact("entries", 6);
    }

    // debt: DEBT.
    static void promise05_debt() {
        fact("debt", 5);
    }

    // table: entries of the TABLE.
    static void promise05_table() {
        fact("table", 3);
    }

    // fan: FAN.
    static void promise05_fan() {
        fact("fan", 4);
    }

    // tick: TICK modulo 100.
    static void promise05_tick() {
        fact("tick", 13);
        Desk d = of("tick 100").with("pace 9 if tick > 0");
        is(d.x.slice(), 2);
        d.store("tick 99");
        is(d.x.slice(), 11);
        d.store("tick 999");
        d.law("pace 9 if tick > 98");
        is(d.x.slice(), 11);
    }

    // NUMBER, and sums of PARTS.
    static void promise05_sumsOfParts() {
        holds("7 > 6", true);
        holds("7 > 7", false);
        holds("level + runs + entries + debt + table + fan + tick > 33", true);
        holds("level + runs + entries + debt + table + fan + tick > 34", false);
        holds("34 < level + runs + entries + debt + table + fan + tick", false);
        holds("999 + 999 + 999 > 999 + 999 + 998", true);
        holds("0 > 0", false);
        holds("0 < 0", false);
        holds("0 < 1", true);
        holds("1 < 0", false);
        holds("level < 0", false);
        holds("0 + 1 > 0", true);
        holds("tick + 0 < 13 + 0", false);
        holds("tick + 0 < 14 + 0", true);
        holds("1 + 1 < 2", false);
        holds("2 > 1 + 1", false);
    }

    // busy: there is a JOB.
    static void promise05_busy() {
        holds("busy", true);
        holds("not busy", false);
        Desk d = told().with("pace 9 if busy");
        d.x.halt();
        is(d.x.slice(), 0);
    }

    // tiered: PLAN 0.
    static void promise05_tiered() {
        holds("tiered", true);
        Desk d = of("levelled").with("pace 9 if tiered");
        is(d.x.slice(), 2);
        d.x.plan(false);
        is(d.x.slice(), 11);
    }

    // full: TABLE has SIZE entries or more.
    static void promise05_full() {
        Desk d = of("size 6; table 1 1 2 2 3 3").with("pace 9 if full");
        is(d.x.slice(), 2);
        d.x.tune(1, 4);
        is(d.x.slice(), 2);
        d.x.tune(1, 3);
        is(d.x.slice(), 11);
        d.x.tune(1, 2);
        is(d.x.slice(), 11);
    }

    // and is closer than or; not closer than and; ( ) holds together.
    static void promise05_orAndNot() {
        holds("busy or full and full", true);
        holds("full and full or busy", true);
        holds("(busy or full) and full", false);
        holds("full and (full or busy)", false);
        holds("not full and busy", true);
        holds("not busy and full", false);
        holds("not (busy and full)", true);
        holds("not busy or busy", true);
        holds("not (busy or busy)", false);
        holds("not not busy", true);
        holds("full or full or tiered", true);
        holds("full or full or full", false);
        holds("tiered and busy and full", false);
        holds("tiered and busy and 1 < 2", true);
        holds("busy or full", true);
        holds("full or busy", true);
        holds("busy and busy", true);
    }

    // LEVEL of pace: 0 without a JOB.
    static void promise05_levelWithoutAJob() {
        Desk d = of("run level 0 of 1 1 2 2; run level 1 of 3 3 4 4 5 5").with("pace 9 if level < 1 and runs < 2 and entries < 3");
        is(d.x.slice(), 11);
        d.law("pace 9 if level > 0 or runs < 1 or entries < 2");
        is(d.x.slice(), 2);
    }

    // LEVEL of pace: 0 without a JOB: behind one that has ended, and one that was given up.
    static void promise05_levelBehindAJob() {
        String store = "fan 2; pace 2; run level 1 of 1 1; run level 1 of 2 2";
        Desk d = of(store).with("pace 1; pace 9 if level < 1");
        is(d.x.slice(), 12);
        d.x.work();
        is(d.job(), "-1 -1 -1 -1 -1");
        is(d.x.slice(), 12);
        Desk e = of(store).with("pace 9 if level < 1");
        e.x.tune(2, 1);
        e.x.work();
        is(e.x.job(0), 2);
        is(e.x.slice(), 1);
        e.x.halt();
        is(e.x.slice(), 10);
    }

    // SLICE: the sum of N of all pace LINES that hold; those of cost and worth do nothing to it.
    static void promise05_paceLinesTogether() {
        Desk d = new Desk().with("pace 1; pace 2 if tiered; pace 4 if busy; cost 8; worth 16; pace 32");
        is(d.x.slice(), 2 + 1 + 2 + 32);
    }

    // COST of a slice: 1 and the sum of N of all cost LINES that hold; of cost the LEVEL is that to which the JOB goes.
    static void promise05_costLinesTogether() {
        Desk d = told().with("cost 1 if level > 1; cost 2 if level < 2; cost 4 if runs < 2 and entries > 5; pace 1; worth 16; cost 32");
        is(d.x.count(13), 3);
        d.x.work();
        is(d.x.count(13), 3 + 1 + 1 + 4 + 32);
    }

    // WORTH of a LEVEL: 10 less LEVEL, and the sum of N of all worth LINES that hold of that LEVEL.
    static void promise05_worthLinesTogether() {
        Desk d = told().with("worth 1; worth 5 if level > 1; worth 7 if runs > 3; worth 9 if entries > 5; pace 3; cost 4");
        is(d.x.level(0, 3), 10 + 1);
        is(d.x.level(1, 3), 9 + 1 + 7);
        is(d.x.level(2, 3), 8 + 1 + 5 + 9);
        is(d.x.level(3, 3), 7 + 1 + 5);
    }

    // Without a LINE that holds: COST 1, WORTH 10 less LEVEL.
    static void promise05_noLineHolds() {
        Desk d = told().with("worth 5 if 1 > 1; cost 5 if 1 > 1; pace 5 if 1 > 1");
        d.x.work();
        is(d.x.count(13), 4);
        is(d.x.level(3, 3), 7);
        is(d.x.slice(), 0);
    }

    // A new LAW changes nothing but THE LAW.
    static void promise05_changesNothingElse() {
        Desk d = told();
        String before = d.state();
        d.law("cost 5");
        is(d.state(), before.replaceFirst("5 3 1 -1 ", "5 3 1 1 "));
    }
}
