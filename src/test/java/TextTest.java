/** The tape, the texts of the store and the law: promises 1 to 6, and what a law does. */
public final class TextTest {
    private static final Object BAD = IllegalArgumentException.class;

    public static void main(String[] args) {
        newObject();
        tape();
        storeTexts();
        storeBounds();
        storeLines();
        wrongKeepsAll();
        twelveTexts();
        lawTexts();
        lawWithoutLines();
        lawDepth();
        lawFacts();
        lawWorth();
        Check.tell();
    }

    private static void newObject() {
        Desk d = new Desk();
        Check.same("counts of a new one", d.counts(), "0 0 0 -1 0 3 4 2 0 0 0 0 0 0 0 0 0");
        Check.due("fault ahead of any", () -> d.x.fault(), -1);
        Check.due("slice of a new one", () -> d.x.slice(), 2);
        Check.due("debt of a new one", () -> d.x.debt(), 0);
        Check.due("many of a new one", () -> d.x.many(), 0);
        Check.due("seed of a new one", () -> d.x.seed(5), 1);
        Check.due("back of a new one", () -> d.x.back(), false);
        Check.due("undo of a new one", () -> d.x.undo(), false);
        Check.due("constant", () -> RunLedger.NONE, -1);
    }

    private static void tape() {
        Desk d = new Desk();
        Check.due("end 0 of nothing", () -> d.x.end(0), true);
        Check.due("end 1 of nothing", () -> d.x.end(1), false);
        for (int i = 1; i <= 20; i++) {
            int many = 20 * i;
            Check.due("feed", () -> d.x.feed(0x20202020, 0x20202020, 0x20202020, 0x20202020, 0x20202020), many);
        }
        Check.due("feed above 400", () -> d.x.feed(0, 0, 0, 0, 0), -1);
        Check.due("end 401", () -> d.x.end(401), false);
        Check.due("end below 0", () -> d.x.end(-1), false);
        Check.due("end far below 0", () -> d.x.end(Integer.MIN_VALUE), false);
        Check.due("end 381", () -> d.x.end(381), true);
        Check.due("feed with 381", () -> d.x.feed(0, 0, 0, 0, 0), -1);
        Check.due("end 380", () -> d.x.end(380), true);
        Check.due("feed with 380", () -> d.x.feed(0x20202020, 0x20202020, 0x20202020, 0x20202020, 0x2020203b), 400);
        Check.due("a long text with a fault at its end", () -> d.x.store(), BAD);
        Check.due("the last byte", () -> d.x.fault(), 399);
        Check.due("used up", () -> d.x.end(1), false);
        // "size" as bytes, highest first, and a byte above 127.
        Check.due("feed", () -> d.x.feed(0x73697a65, 0x20360000, 0, 0, 0), 20);
        Check.due("end 6", () -> d.x.end(6), true);
        Check.due("store", () -> d.x.store(), 1);
        Check.due("size", () -> d.x.count(6), 6);
        Check.due("feed", () -> d.x.feed(0xe9000000, 0, 0, 0, 0), 20);
        Check.due("end 1", () -> d.x.end(1), true);
        Check.due("sign 233", () -> d.x.store(), BAD);
        Check.due("its place", () -> d.x.fault(), 0);
    }

    private static void store(String text, int fault) {
        Desk d = new Desk();
        Check.due("store " + text, () -> d.store(text), fault == -1 ? (Object) 1 : BAD);
        Check.due("fault of store " + text, () -> d.x.fault(), fault);
        Check.due("tape behind store " + text, () -> d.x.end(1), false);
    }

    private static void storeTexts() {
        store("", -1);
        store("    ", -1);
        store("size 7", 5);
        store("size 1", 5);
        store("size 2", -1);
        store("size 6", -1);
        store("size 0006", 5);
        store("size 006", -1);
        store("size", 4);
        store("size ", 5);
        store("size  ", 6);
        store("sizes 4", 0);
        store("  sizes 4", 2);
        store("size4", -1);
        store("size4;fan2", -1);
        store("  size  4  ;  fan 2  ", -1);
        store("size 4 5", 7);
        store("size 4 fan 2", 7);
        store("size 4;", 7);
        store("size 4; ", 8);
        store(";", 0);
        store("size 4;;fan 2", 7);
        store("size x", 5);
        store("size -1", 5);
        store("Size 4", 0);
        store("siZe 4", 0);
        store("size\n4", 4);
        store("\tsize 4", 0);
        store("fan 1", 4);
        store("fan 5", 4);
        store("fan 2", -1);
        store("fan 4", -1);
        store("pace 10", 5);
        store("pace 9", -1);
        store("pace 0", -1);
        store("pace 000", -1);
        store("pace 0000", 5);
        store("tick 999", -1);
        store("tick 1000", 5);
        store("tick 0", -1);
        store("tick", 4);
        store("tiered", -1);
        store("levelled", -1);
        store("level 1", 0);
        store("tiered 1", 7);
        store("levelled; tiered", -1);
        store("cost 1", 0);
        store("5", 0);
        store("(", 0);
    }

    private static void storeLines() {
        store("run level 0 of 1 1", -1);
        store("runlevel 0 of 1 1", 0);
        store("run level0of1 1", -1);
        store("run level 3 of 0 0 59 100", -1);
        store("run level 4 of 1 1", 10);
        store("run level of 1 1", 10);
        store("run level 0 of 60 1", 15);
        store("run level 0 of 5 101", 17);
        store("run level 0 of 5 1 5 2", 19);
        store("run level 0 of 5 1 4 2", 19);
        store("run level 0 of 5 1 6 101", 21);
        store("run level 0 of 5 1 6", 20);
        store("run level 0 of 5", 16);
        store("run level 0 of", 14);
        store("run level 0", 11);
        store("run level", 9);
        store("run", 3);
        store("run 0", 4);
        store("run level 0 1 1", 12);
        store("run level 0 of ;", 15);
        store("run level 0 of 59 1 60 1", 20);
        store("run level 2 of 1 1; run level 1 of 1 1", 30);
        store("run level 1 of 1 1; run level 1 of 1 1", -1);
        store("run level 0 of 0 0; run level 3 of 0 0", -1);
        store("table 1 1", -1);
        store("table 1 100", -1);
        store("table 1 101", 8);
        store("table 60 1", 6);
        store("table 1 1 1 2 0 3", -1);
        store("table", 5);
        store("table 1", 7);
        store("table 1 1 2", 11);
        store("table of 1", 6);
        store("tables 1 1", 0);
    }

    private static void storeBounds() {
        StringBuilder run = new StringBuilder("run level 0 of");
        StringBuilder table = new StringBuilder("table");
        StringBuilder lines = new StringBuilder("pace 1");
        StringBuilder runs = new StringBuilder("run level 0 of 1 1");
        for (int i = 10; i < 30; i++) {
            run.append(' ').append(i).append(" 7");
            if (i < 22) {
                table.append(' ').append(i).append(" 7");
            }
            if (i < 23) {
                lines.append(";pace 1");
            }
            if (i < 21) {
                runs.append("; run level 0 of 1 1");
            }
        }
        store(run.toString(), -1);
        store(run + " 30 7", run.length() + 1);
        store(run + " 9 7", run.length() + 1);
        store(run + " 60 7", run.length() + 1);
        store(table.toString(), -1);
        store(table + " 9 7", table.length() + 1);
        store(table + " 60 7", table.length() + 1);
        store(lines.toString(), -1);
        store(lines + ";", lines.length() + 1);
        store(lines + ";  pace 1", lines.length() + 3);
        store(lines + "; nothing", lines.length() + 2);
        store(runs.toString(), -1);
        store(runs + "; pace 3", -1);
        store(runs + "; run level 0 of 1 1", runs.length() + 2);
        store(runs + "; runs", runs.length() + 2);
        Desk d = Desk.of(runs.toString());
        Check.due("twelve runs", () -> d.x.count(0), 12);
        Check.due("a thirteenth in another text", () -> d.store("pace 1; run level 3 of 1 1"), BAD);
        Check.due("its word", () -> d.x.fault(), 8);
        Check.due("no thirteenth", () -> d.x.count(0), 12);
    }

    private static void wrongKeepsAll() {
        Desk d = Desk.of("run level 1 of 1 1; table 2 2; pace 3");
        String counts = d.counts();
        Check.due("wrong", () -> d.store("run level 2 of 3 3; table 4 4; size 5; fan 2; pace 4; levelled; tick 9; fan 9"), BAD);
        Check.same("nothing stays", d.counts(), counts);
        Check.same("the run stays", d.row(0), "1:1/0");
        Check.same("the table stays", d.row(-1), "2:2/0");
        Check.same("fault", String.valueOf(d.x.fault()), "76");
        Check.due("a level less than that of the oldest run", () -> d.store("run level 0 of 1 1"), BAD);
        Check.due("it is wrong at it", () -> d.x.fault(), 10);
        Check.due("right", () -> d.store("run level 2 of 3 3; size 5; fan 2; pace 4; levelled; tick 9"), 2);
        Check.due("no fault", () -> d.x.fault(), -1);
        Check.same("all stays", d.counts(), "2 1 2 -1 1 2 5 4 0 0 1 0 0 0 9 0 0");
        Check.same("the newer run", d.row(0), "1:1/0");
        Check.same("the older run", d.row(1), "3:3/0");
    }

    private static void twelveTexts() {
        Desk d = new Desk();
        for (int i = 1; i <= 12; i++) {
            int many = i;
            Check.due("text", () -> d.store(""), many);
        }
        Check.due("wrong ahead of too many", () -> d.store("size"), BAD);
        Check.due("its fault", () -> d.x.fault(), 4);
        Check.due("too many", () -> d.store("size 2"), UnsupportedOperationException.class);
        Check.due("no fault", () -> d.x.fault(), -1);
        Check.due("tape used up", () -> d.x.end(1), false);
        Check.due("size as ahead", () -> d.x.count(6), 4);
        Check.due("twelve", () -> d.x.count(2), 12);
    }

    private static void law(String text, int fault, int lines) {
        Desk d = new Desk();
        Check.due("law " + text, () -> d.law(text), fault == -1 ? (Object) lines : BAD);
        Check.due("fault of law " + text, () -> d.x.fault(), fault);
        Check.due("lines of law " + text, () -> d.x.count(3), fault == -1 ? lines : -1);
        Check.due("tape behind law " + text, () -> d.x.end(1), false);
    }

    private static void lawTexts() {
        law("", -1, 0);
        law("   ", -1, 0);
        law(";", 0, 0);
        law(" ;", 1, 0);
        law("; pace 1", 0, 0);
        law("  x", 2, 0);
        law("pace 40", -1, 1);
        law("pace 41", 5, 0);
        law("pace 0040", 5, 0);
        law("pace 040", -1, 1);
        law("pace", 4, 0);
        law("size 4", 0, 0);
        law("pace 3 if", 9, 0);
        law("pace 3 if ", 10, 0);
        law("pace 3 of busy", 7, 0);
        law("pace 3 busy", 7, 0);
        law("pace 3 if busy", -1, 1);
        law("pace 3 if levelled", 10, 0);
        law("pace 3 if notbusy", 10, 0);
        law("pace 3 if busy or", 17, 0);
        law("pace 3 if busy and", 18, 0);
        law("pace 3 if busy tiered", 15, 0);
        law("pace 3 if level", 15, 0);
        law("pace 3 if level <", 17, 0);
        law("pace 3 if level = 2", 16, 0);
        law("pace 3 if level < 2 < 3", 20, 0);
        law("pace 3 if level <= 2", 17, 0);
        law("pace 3 if level < 1000", 18, 0);
        law("pace 3 if level < 999", -1, 1);
        law("pace 3 if level + 2 > 3 + debt + table", -1, 1);
        law("pace 3 if level + > 3", 18, 0);
        law("pace 3 if busy < 3", 15, 0);
        law("pace 3 if 3 < busy", 14, 0);
        law("pace 3 if (level) < 3", 16, 0);
        law("pace 3 if (busy", 15, 0);
        law("pace 3 if busy)", 14, 0);
        law("pace 3 if ()", 11, 0);
        law("pace 3 if not", 13, 0);
        law("pace 3;", 7, 0);
        law("pace 3; cost 2; worth 1", -1, 3);
        law("pace 3 ; cost 2 if full ; worth 1 if runs > 2", -1, 3);
        law("cost 1;cost 1;cost 1;cost 1;cost 1;cost 1;cost 1;cost 1;cost 1;cost 1;cost 1;cost 1", -1, 12);
        law("cost 1;cost 1;cost 1;cost 1;cost 1;cost 1;cost 1;cost 1;cost 1;cost 1;cost 1;cost 1;cost 1", 84, 0);
        law("cost 1;cost 1;cost 1;cost 1;cost 1;cost 1;cost 1;cost 1;cost 1;cost 1;cost 1;cost 1;", 84, 0);
        Desk d = new Desk();
        Check.due("law", () -> d.law("pace 3; cost 2"), 2);
        Check.due("slice", () -> d.x.slice(), 5);
        Check.due("wrong law", () -> d.law("pace 4; cost 41"), BAD);
        Check.due("the law before stays", () -> d.x.slice(), 5);
        Check.due("its lines", () -> d.x.count(3), 2);
        Check.due("law in its place", () -> d.law("pace 7"), 1);
        Check.due("slice by it", () -> d.x.slice(), 9);
    }

    private static void lawWithoutLines() {
        Desk d = new Desk();
        Check.due("no law at first", () -> d.x.count(3), -1);
        Check.due("nothing on a new tape", () -> d.x.law(), 0);
        Check.due("a law of no lines", () -> d.x.count(3), 0);
        Check.due("slice without lines", () -> d.x.slice(), 2);
        d.law("pace 7; worth 3");
        Check.due("a wrong one ahead of it", () -> d.law("pace"), BAD);
        Check.due("its fault", () -> d.x.fault(), 4);
        d.x.put(1, 1);
        Check.due("an act ahead of it", () -> d.x.count(16), 1);
        Check.due("blanks alone", () -> d.law("     "), 0);
        Check.due("no fault", () -> d.x.fault(), -1);
        Check.due("in place of the one before", () -> d.x.slice(), 2);
        Check.due("worth without lines", () -> d.x.level(0, 3), 10);
        Check.due("none of its lines", () -> d.x.count(3), 0);
        Check.due("acts forgotten", () -> d.x.undo(), false);
        d.x.image();
        d.law("cost 1");
        Check.due("back to a law of no lines", () -> d.x.back(), true);
        Check.due("that has none", () -> d.x.count(3), 0);
    }

    private static void lawDepth() {
        law("cost 2 if not not not not not not busy", -1, 1);
        law("cost 2 if not not not not not not not busy", 34, 0);
        law("cost 2 if ((((((busy))))))", -1, 1);
        law("cost 2 if (((((((busy)))))))", 16, 0);
        law("cost 2 if (not(not(not(busy))))", 22, 0);
        law("cost 2 if not(not(not(busy)))", -1, 1);
        law("cost 2 if not(not(not(not busy)))", 22, 0);
        law("cost 2 if ((((((busy)))))) and ((((((busy)))))) or not not busy", -1, 1);
        law("cost 2 if ((((((busy) or (busy))))))", -1, 1);
        law("cost 2 if ((((((1 < 2 or (busy)))))))", 25, 0);
    }

    private static void holds(String condition, boolean want) {
        // Two runs of level 1 and three of level 0, two entries in the table, a job to level 1.
        Desk d = Desk.of("fan 4; tick 213; size 3; run level 0 of 1 1; run level 0 of 1 1 2 2; run level 0 of 5 5; "
                + "run level 0 of 6 6; run level 1 of 1 1 2 2 3 3; run level 1 of 7 7; table 8 8; fan 3; table 9 9; pace 0");
        d.law("pace 9 if " + condition);
        Check.due("slice if " + condition, () -> d.x.slice(), want ? 9 : 0);
    }

    private static void lawFacts() {
        // By "fan 3" the job was given up, by the write behind it one began: 5 entries of level 0,
        // of which its slice of 2 did the keys 1 and 2, and two of the entries are left.
        holds("level > 0", true);
        holds("level > 1", false);
        holds("runs > 1 and runs < 3", true);
        holds("entries > 3 and entries < 5", true);
        holds("debt > 1 and debt < 3", true);
        holds("table > 1 and table < 3", true);
        holds("fan > 2 and fan < 4", true);
        holds("tick > 12 and tick < 14", true);
        holds("busy", true);
        holds("not busy", false);
        holds("tiered", true);
        holds("not tiered", false);
        holds("full", false);
        holds("level + level + 1 > 2", true);
        holds("1 + 1 < 2", false);
        holds("2 > 1 + 1", false);
        holds("2 < 1 + 2", true);
        holds("busy or full and full", true);
        holds("(busy or full) and full", false);
        holds("not busy or busy", true);
        holds("not (busy or busy)", false);
        holds("full or full or tiered", true);
        holds("tiered and busy and full", false);
        holds("not not busy", true);
        Desk d = Desk.of("levelled; size 2; table 1 1");
        d.law("pace 1 if tiered; pace 2 if full; pace 3 if busy; pace 4 if level + runs + entries + debt > 0; pace 5");
        Check.due("slice without a job, of a level 0 without runs", () -> d.x.slice(), 7);
        d.store("run level 0 of 4 4");
        Check.due("level 0 has a run", () -> d.x.slice(), 11);
        d.store("run level 3 of 4 4; run level 3 of 5 5");
        d.x.work();
        Check.due("busy", () -> d.x.job(0), -1);
        Check.due("seed is no act", () -> d.x.seed(1), 1);
    }

    private static void lawWorth() {
        Desk d = new Desk();
        for (int level = 0; level < 4; level++) {
            int l = level;
            Check.due("worth without a law", () -> d.x.level(l, 3), 10 - l);
        }
        d.law("worth 5 if level > 1; worth 7 if level > 2; worth 1; pace 30; cost 30");
        Check.due("worth of 0", () -> d.x.level(0, 3), 11);
        Check.due("worth of 1", () -> d.x.level(1, 3), 10);
        Check.due("worth of 2", () -> d.x.level(2, 3), 14);
        Check.due("worth of 3", () -> d.x.level(3, 3), 20);
        d.store("fan 2; run level 0 of 1 1; run level 0 of 2 2; run level 2 of 3 3; run level 2 of 4 4");
        d.x.work();
        Check.due("the level of the most worth goes first", () -> d.x.log(1, 2), 3);
        Check.due("by its slice all was done", () -> d.x.log(0, 1), 2);
        Check.due("bill by cost", () -> d.x.count(13), 31);
        d.law("worth 1 if level > 0");
        d.store("run level 3 of 9 9");
        Check.due("worth of 0", () -> d.x.level(0, 3), 10);
        d.law("worth 3 if level > 2");
        d.x.work();
        Check.due("of several the least level", () -> d.x.log(0, 2), 1);
    }
}
