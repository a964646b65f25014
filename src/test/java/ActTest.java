/** What acts do to runs, the job, the ledger and the log: promises 7 to 20 and 39 to 48. */
public final class ActTest {
    private static final Object NO_SUCH = java.util.NoSuchElementException.class;
    private static final Object OUT = IndexOutOfBoundsException.class;
    private static final Object BAD = IllegalArgumentException.class;
    private static final Object STATE = IllegalStateException.class;
    private static final int[] WRONG = {-1, -2, 60, 61, 99, 100, Integer.MAX_VALUE, Integer.MIN_VALUE};

    public static void main(String[] args) {
        runsAndLevels();
        wrongNumbers();
        merging();
        outputPlaces();
        levelledDue();
        tieredDue();
        writing();
        stalling();
        stallByTwelve();
        textWrites();
        givingUp();
        flushByHand();
        tuning();
        drawing();
        foresight();
        logRing();
        undoing();
        imaging();
        greatest();
        Check.tell();
    }

    private static Desk small() {
        return Desk.of("run level 0 of 1 10 5 20; run level 1 of 1 11 7 70 9 100; table 5 21");
    }

    private static void runsAndLevels() {
        RunLedger x = small().x;
        Check.due("level of run 0", () -> x.run(0, 0), 0);
        Check.due("level of run 1", () -> x.run(1, 0), 1);
        Check.due("entries", () -> x.run(1, 1), 3);
        Check.due("most rewrites", () -> x.run(1, 2), 0);
        Check.due("input", () -> x.run(1, 3), 0);
        Check.due("share of 0", () -> x.run(0, 4), 40);
        Check.due("share of 1", () -> x.run(1, 4), 60);
        Check.due("no run 2", () -> x.run(2, 0), OUT);
        Check.due("no run, no what", () -> x.run(2, 9), OUT);
        Check.due("what 5", () -> x.run(0, 5), NO_SUCH);
        Check.due("what -1", () -> x.run(0, -1), NO_SUCH);
        Check.due("key", () -> x.entry(1, 1, 0), 7);
        Check.due("value", () -> x.entry(1, 1, 1), 70);
        Check.due("removed", () -> x.entry(1, 2, 1), 100);
        Check.due("rewrites", () -> x.entry(1, 2, 2), 0);
        Check.due("of the table", () -> x.entry(-1, 0, 0), 5);
        Check.due("of the table", () -> x.entry(-1, 0, 1), 21);
        Check.due("of the table", () -> x.entry(-1, 0, 2), 0);
        Check.due("no output", () -> x.entry(99, 0, 0), -1);
        Check.due("behind", () -> x.entry(1, 3, 0), -1);
        Check.due("ahead", () -> x.entry(1, -1, 1), -1);
        Check.due("no run", () -> x.entry(2, 0, 0), OUT);
        Check.due("no run, no what", () -> x.entry(12, 0, 3), OUT);
        Check.due("what 3", () -> x.entry(0, 9, 3), NO_SUCH);
        Check.due("what -1 of the output", () -> x.entry(99, 0, -1), NO_SUCH);
        Check.due("bits of 0", () -> x.level(0, 0), 1);
        Check.due("bits of 1", () -> x.level(1, 0), 2);
        Check.due("bits of 2", () -> x.level(2, 0), 0);
        Check.due("entries of 1", () -> x.level(1, 1), 3);
        Check.due("due", () -> x.level(1, 2), 0);
        Check.due("worth", () -> x.level(3, 3), 7);
        Check.due("no level", () -> x.level(4, 0), OUT);
        Check.due("no level, no what", () -> x.level(-1, 4), OUT);
        Check.due("what 4", () -> x.level(0, 4), NO_SUCH);
        Check.due("job without", () -> x.job(0), -1);
        Check.due("job without", () -> x.job(4), -1);
        Check.due("job what 5", () -> x.job(5), NO_SUCH);
        Check.due("job what -1", () -> x.job(-1), NO_SUCH);
        Check.due("count what 17", () -> x.count(17), -1);
        Check.due("count what -1", () -> x.count(-1), -1);
    }

    private static void wrongNumbers() {
        RunLedger x = small().x;
        String before = new Desk[] {small()}[0].counts();
        for (int n : WRONG) {
            Check.due("put key", () -> x.put(n, 5), OUT);
            Check.due("put key ahead of value", () -> x.put(n, -1), OUT);
            Check.due("remove key", () -> x.remove(n), OUT);
            Check.due("get key", () -> x.get(n), OUT);
            Check.due("looks key", () -> x.looks(n), OUT);
            Check.due("total from", () -> x.total(n, 5), OUT);
            Check.due("total to", () -> x.total(5, n), OUT);
            Check.due("log kind", () -> x.led(n, true), NO_SUCH);
            Check.due("log what", () -> x.log(n, n), NO_SUCH);
            Check.due("most what", () -> x.most(n), NO_SUCH);
            Check.due("tune what", () -> x.tune(n, 3), NO_SUCH);
            Check.due("tune what ahead of n", () -> x.tune(n, n), NO_SUCH);
            Check.due("tune n", () -> x.tune(0, n), BAD);
            Check.due("odds", () -> x.odds(n), BAD);
            if (n != 60) {
                Check.due("ticks", () -> x.ticks(n), BAD);
                Check.due("ahead", () -> x.ahead(n, true), BAD);
                Check.due("trial", () -> x.trial(n, true), BAD);
                Check.due("span", () -> x.span(n, true), BAD);
            }
            if (n != 99) {
                Check.due("run", () -> x.run(n, 0), OUT);
            }
        }
        Check.due("ticks 0", () -> x.ticks(0), BAD);
        Check.due("put value 100", () -> x.put(0, 100), BAD);
        Check.due("put value -1", () -> x.put(0, -1), BAD);
        Check.due("tune fan 1", () -> x.tune(0, 1), BAD);
        Check.due("tune fan 5", () -> x.tune(0, 5), BAD);
        Check.due("tune size 1", () -> x.tune(1, 1), BAD);
        Check.due("tune size 7", () -> x.tune(1, 7), BAD);
        Check.due("tune pace 10", () -> x.tune(2, 10), BAD);
        Check.due("tune pace -1", () -> x.tune(2, -1), BAD);
        Check.due("odds 6", () -> x.odds(6), BAD);
        Check.due("led 4", () -> x.led(4, false), NO_SUCH);
        Check.due("most 2", () -> x.most(2), NO_SUCH);
        Check.due("halt without", () -> x.halt(), STATE);
        Check.due("work without", () -> x.work(), STATE);
        Desk d = small();
        Check.same("nothing changed", d.counts(), before);
        Check.due("no act was remembered", () -> x.count(16), 0);
        Check.due("no tick", () -> x.count(14), 0);
    }

    private static void merging() {
        Desk d = Desk.of("fan 2; run level 0 of 1 10 2 20; run level 0 of 2 21 3 100; run level 1 of 3 33");
        RunLedger x = d.x;
        Check.due("due", () -> x.level(0, 2), 1);
        Check.due("not due", () -> x.level(1, 2), 0);
        Check.due("debt without a job", () -> x.debt(), 4);
        Check.due("slice", () -> x.slice(), 2);
        Check.due("two keys are done", () -> x.work(), 2);
        Check.due("job level", () -> x.job(0), 1);
        Check.due("inputs", () -> x.job(1), 3);
        Check.due("output", () -> x.job(2), 2);
        Check.due("at", () -> x.job(3), 3);
        Check.due("left", () -> x.job(4), 1);
        Check.due("debt of the job", () -> x.debt(), 1);
        Check.due("run 0 is input", () -> x.run(0, 3), 1);
        Check.due("run 2 is none", () -> x.run(2, 3), 0);
        Check.same("output", d.row(99), "1:10/1 2:20/1");
        Check.due("reads", () -> x.count(8), 3);
        Check.due("writes", () -> x.count(9), 2);
        Check.due("bill", () -> x.count(13), 1);
        Check.due("the last key", () -> x.work(), 1);
        Check.due("no job", () -> x.job(0), -1);
        Check.due("two runs", () -> x.count(0), 2);
        Check.same("a removed one stays, for an older run has the key", d.row(0), "1:10/1 2:20/1 3:100/1");
        Check.due("its level", () -> x.run(0, 0), 1);
        Check.same("no output", d.row(99), "");
        Check.same("log", d.logged(), "0 2 1 3; 0 1 1 4");
        Check.due("due by now", () -> x.level(1, 2), 1);
        Check.due("two keys", () -> x.work(), 2);
        Check.due("the removed one", () -> x.work(), 1);
        Check.same("nowhere", d.row(0), "1:10/2 2:20/2");
        Check.due("level 2", () -> x.run(0, 0), 2);
        Check.due("rewrites", () -> x.run(0, 2), 2);
        Check.due("reads", () -> x.count(8), 8);
        Check.due("writes", () -> x.count(9), 5);
        Check.due("bill", () -> x.count(13), 4);
        Check.due("no more work", () -> x.work(), STATE);
        Check.same("log", d.logged(), "0 2 2 2; 0 1 2 4; 0 2 1 3; 0 1 1 4");
        Check.due("rows of kind 2", () -> x.led(2, false), 2);
        Check.due("rows of kind 3", () -> x.led(3, false), 0);
        Check.due("tick of kind 3", () -> x.led(3, true), -1);
        Check.due("tick of kind 1", () -> x.led(1, true), 0);
    }

    private static void outputPlaces() {
        Desk gone = Desk.of("fan 2; pace 9; run level 0 of 4 100; run level 0 of 4 7; tick 12");
        Check.due("one key is done", () -> gone.x.work(), 1);
        Check.due("an output without entries is no run", () -> gone.x.count(0), 0);
        Check.same("log of it", gone.logged(), "12 2 1 0; 12 1 1 2");
        Check.due("writes", () -> gone.x.count(9), 0);
        Check.due("reads", () -> gone.x.count(8), 2);
        Desk d = Desk.of("fan 2; pace 1; size 2; run level 0 of 4 100 5 5; run level 0 of 4 7; run level 1 of 4 8; table 9 9");
        Check.same("by the write a job began", d.logged(), "0 1 1 3");
        Check.same("a removed one stays as an older run has it", d.row(99), "4:100/1");
        Check.due("the table is flushed", () -> d.x.put(10, 1), 0);
        Check.due("the key behind", () -> d.x.count(0), 3);
        Check.same("the new run is ahead", d.row(0), "9:9/0 10:1/0");
        Check.same("the output has the place of the oldest input", d.row(1), "4:100/1 5:5/1");
        Check.same("the older one", d.row(2), "4:8/0");
        Check.same("log", d.logged(), "0 2 1 2; 0 0 0 2; 0 1 1 3");
        Desk zero = Desk.of("fan 2; pace 0; run level 0 of 4 4; run level 0 of 5 5");
        Check.due("a slice of none", () -> zero.x.work(), 0);
        Check.due("its bill", () -> zero.x.count(13), 1);
        Check.due("left", () -> zero.x.job(4), 2);
        Check.due("at", () -> zero.x.job(3), 0);
        Check.due("a slice of none by a write", () -> zero.x.put(1, 1), 0);
        Check.due("its bill", () -> zero.x.count(13), 2);
    }

    private static void levelledDue() {
        Desk d = Desk.of("levelled; fan 2; size 2; run level 1 of 1 1 2 2 3 3 4 4");
        Check.due("as many as SIZE times FAN", () -> d.x.level(1, 2), 0);
        d.store("run level 2 of 1 1 2 2 3 3 4 4 5 5 6 6 7 7 8 8");
        Check.due("as many as SIZE times FAN times FAN", () -> d.x.level(2, 2), 0);
        d.x.tune(1, 6);
        d.x.tune(1, 2);
        Check.due("debt", () -> d.x.debt(), 0);
        Desk more = Desk.of("levelled; fan 2; size 2; run level 1 of 1 1 2 2 3 3 4 4 5 5;"
                + "run level 2 of 1 1 2 2 3 3 4 4 5 5 6 6 7 7 8 8 9 9; run level 3 of 1 1");
        Check.due("more", () -> more.x.level(1, 2), 1);
        Check.due("more", () -> more.x.level(2, 2), 1);
        Check.due("one of level 3", () -> more.x.level(3, 2), 0);
        Check.due("debt of both", () -> more.x.debt(), 14);
        more.x.work();
        Check.due("both levels are inputs", () -> more.x.job(1), 3);
        Check.due("it goes to 2", () -> more.x.job(0), 2);
        Check.due("left and nothing else", () -> more.x.debt(), more.x.job(4));
        Desk two = Desk.of("levelled; fan 4; run level 1 of 1 1; run level 1 of 2 2; run level 3 of 1 1; run level 3 of 2 2");
        Check.due("two of level 1", () -> two.x.level(1, 2), 1);
        Check.due("two of level 3", () -> two.x.level(3, 2), 1);
        Check.due("done", () -> two.x.work(), 2);
        Check.due("one of level 2", () -> two.x.level(2, 0), 1);
        Check.due("then level 3", () -> two.x.work(), 2);
        Check.same("it stays in 3", two.logged(), "0 2 3 2; 0 1 3 2; 0 2 2 2; 0 1 2 2");
        Desk zero = Desk.of("levelled; fan 3; run level 0 of 1 1; run level 0 of 2 2; run level 1 of 3 3");
        Check.due("two of level 0", () -> zero.x.level(0, 2), 0);
        zero.x.tune(0, 2);
        Check.due("two are FAN", () -> zero.x.level(0, 2), 1);
        zero.x.work();
        Check.due("with level 1", () -> zero.x.job(1), 7);
    }

    private static void tieredDue() {
        Desk d = Desk.of("run level 1 of 1 1; run level 1 of 2 2; run level 2 of 1 1; run level 2 of 2 2; run level 2 of 3 3;"
                + "run level 3 of 1 1; run level 3 of 2 2");
        Check.due("two of three", () -> d.x.level(1, 2), 0);
        Check.due("three", () -> d.x.level(2, 2), 1);
        Check.due("two of level 3", () -> d.x.level(3, 2), 1);
        Check.due("debt of all due ones", () -> d.x.debt(), 5);
        d.x.work();
        Check.due("these alone", () -> d.x.job(1), 4 + 8 + 16);
        Check.due("left and the other due level", () -> d.x.debt(), 3);
        Check.due("left", () -> d.x.job(4), 1);
        d.x.plan(true);
        Check.due("the job is given up", () -> d.x.job(0), -1);
        Check.due("levelled", () -> d.x.level(1, 2), 1);
        d.x.plan(false);
        Check.due("tiered again", () -> d.x.level(1, 2), 0);
    }

    private static void writing() {
        Desk d = new Desk();
        for (int i = 0; i < 3; i++) {
            int key = 50 - i;
            Check.due("put", () -> d.x.put(key, key), 0);
        }
        Check.same("rising", d.row(-1), "48:48/0 49:49/0 50:50/0");
        d.x.put(49, 7);
        Check.same("in place of that of its key", d.row(-1), "48:48/0 49:7/0 50:50/0");
        d.x.remove(48);
        Check.same("removed", d.row(-1), "48:100/0 49:7/0 50:50/0");
        Check.due("puts", () -> d.x.count(10), 5);
        d.x.put(1, 0);
        Check.same("flushed", d.row(0), "1:0/0 48:100/0 49:7/0 50:50/0");
        Check.same("log of a flush", d.logged(), "0 0 0 4");
        Check.due("the table is empty", () -> d.x.count(1), 0);
        Check.due("no bill without a job", () -> d.x.count(13), 0);
        for (int key = 10; key < 18; key++) {
            d.x.put(key, key);
        }
        Check.same("three flushes, and a job", d.logged(), "0 1 1 12; 0 0 0 4; 0 0 0 4; 0 0 0 4");
        Check.due("slice of 2 and 12 by 8", () -> d.x.job(2), 3);
        Check.due("left", () -> d.x.job(4), 9);
        Check.due("bill", () -> d.x.count(13), 1);
        d.x.put(20, 20);
        Check.due("slice of 2 and 9 by 8", () -> d.x.job(2), 6);
        Check.due("bill", () -> d.x.count(13), 2);
        Check.due("reads", () -> d.x.count(8), 6);
        Check.due("again", () -> d.x.over(true), 6 * 100 / 15);
    }

    private static void stalling() {
        Desk d = Desk.of("fan 2; size 2; pace 0; run level 0 of 1 1; run level 0 of 2 2; run level 0 of 3 3; run level 0 of 4 4");
        d.law("cost 5 if debt > 3; cost 7 if debt < 2");
        Check.due("no stall", () -> d.x.put(5, 5), 0);
        Check.due("a slice of none", () -> d.x.job(4), 4);
        Check.due("its cost, as the job has begun", () -> d.x.count(13), 6);
        Check.due("four stalls", () -> d.x.put(6, 6), 4);
        Check.due("stalled", () -> d.x.count(11), 4);
        Check.due("longest", () -> d.x.count(12), 4);
        Check.due("bill of each as it is ahead of it", () -> d.x.count(13), 6 + 6 + 1 + 1 + 8);
        Check.same("flushed behind it", d.row(0), "5:5/0 6:6/0");
        Check.same("merged", d.row(1), "1:1/1 2:2/1 3:3/1 4:4/1");
        Check.same("log", d.logged(), "0 0 0 2; 0 2 1 4; 0 1 1 4");
        Check.due("flush", () -> d.x.put(7, 7), 0);
        Check.due("flush", () -> d.x.put(8, 8), 0);
        Check.due("longest stays", () -> d.x.count(12), 4);
        Check.due("a job for two of level 0", () -> d.x.job(4), 4);
        Desk three = Desk.of("fan 2; size 2; pace 0; run level 0 of 1 1; run level 0 of 2 2; run level 0 of 3 3; table 9 9");
        Check.due("FAN and 1 is no stall", () -> three.x.put(6, 6), 0);
        Check.due("stalls", () -> three.x.put(7, 7), 0);
        Check.due("left of the first three", () -> three.x.job(4), 3);
        Check.due("stalls", () -> three.x.put(8, 8), 3);
        Check.due("stalled", () -> three.x.count(11), 3);
        Check.due("runs", () -> three.x.count(0), 3);
    }

    private static void stallByTwelve() {
        Desk d = Desk.of("pace 9; fan 4; size 2", "run level 1 of 1 1; run level 1 of 2 2; run level 1 of 3 3; run level 2 of 1 1;"
                + "run level 2 of 2 2; run level 2 of 3 3; run level 3 of 1 1; run level 3 of 2 2; run level 3 of 3 3;"
                + "run level 3 of 4 4; run level 3 of 5 5; run level 3 of 6 6");
        Check.due("twelve", () -> d.x.count(0), 12);
        Check.due("due", () -> d.x.level(3, 2), 1);
        Check.due("no flush by hand with an empty table", () -> d.x.flush(), STATE);
        d.x.tune(2, 0);
        d.x.put(50, 50);
        Check.due("no flush by hand at twelve", () -> d.x.flush(), STATE);
        Check.due("a slice of none", () -> d.x.job(4), 6);
        Check.due("six stalls", () -> d.x.put(51, 51), 6);
        Check.due("eight", () -> d.x.count(0), 8);
        Check.due("longest", () -> d.x.count(12), 6);
    }

    private static void textWrites() {
        Desk d = Desk.of("fan 2; size 2; tick 33; table 1 1 1 2 2 100 2 3 4 4; tick 44; table 5 5 6 6");
        Check.same("each a write", d.logged(), "44 0 0 2; 44 2 1 3; 33 1 1 4; 33 0 0 2; 33 0 0 2");
        Check.due("puts", () -> d.x.count(10), 7);
        Check.due("tick as told", () -> d.x.count(14), 44);
    }

    private static void givingUp() {
        Desk d = Desk.of("fan 2; pace 1; run level 0 of 1 1 2 2; run level 0 of 3 3; tick 7");
        Check.due("work", () -> d.x.work(), 1);
        Check.due("halt tells its output", () -> d.x.halt(), 1);
        Check.due("no job", () -> d.x.job(1), -1);
        Check.due("no input", () -> d.x.run(0, 3), 0);
        Check.same("inputs stay as they are", d.row(0), "1:1/0 2:2/0");
        Check.same("log", d.logged(), "7 3 1 1; 7 1 1 3");
        Check.due("halt", () -> d.x.halt(), STATE);
        Check.due("bill stays", () -> d.x.count(13), 1);
        Check.due("it begins anew", () -> d.x.work(), 1);
        Check.due("at", () -> d.x.job(3), 2);
        Check.due("plan told as it is", () -> d.x.plan(false), false);
        Check.due("gives the job up", () -> d.x.job(0), -1);
        d.x.work();
        Check.due("fan told as it is", () -> d.x.tune(0, 2), 2);
        Check.due("gives the job up", () -> d.x.job(0), -1);
        d.x.work();
        Check.due("size told as it is", () -> d.x.tune(1, 4), 4);
        Check.due("gives the job up", () -> d.x.job(0), -1);
        d.x.work();
        Check.due("pace", () -> d.x.tune(2, 1), 1);
        Check.due("gives nothing up", () -> d.x.job(0), 1);
        for (String line : new String[] {"size 4", "fan 2", "tiered", "run level 3 of 5 5"}) {
            d.store("pace 1; tick 8");
            Check.due("a job", () -> d.x.job(0), 1);
            d.store(line);
            Check.due("given up by " + line, () -> d.x.job(0), -1);
            Check.due("logged", () -> d.x.led(3, true), 8);
            d.x.work();
        }
        Check.due("rows given up", () -> d.x.led(3, false), 8);
    }

    private static void flushByHand() {
        Desk d = Desk.of("fan 2; run level 0 of 1 1; table 9 9 10 100");
        Check.due("flush tells the entries", () -> d.x.flush(), 2);
        Check.same("the newest run", d.row(0), "9:9/0 10:100/0");
        Check.due("its level", () -> d.x.run(0, 0), 0);
        Check.due("no job begins by it", () -> d.x.job(0), -1);
        Check.due("empty", () -> d.x.flush(), STATE);
        Check.due("no bill", () -> d.x.count(13), 0);
        Desk full = Desk.of("fan 2; pace 0; run level 0 of 1 1; run level 0 of 2 2; run level 0 of 3 3; table 9 9");
        Check.due("FAN and 1", () -> full.x.flush(), 1);
        full.x.put(8, 8);
        Check.due("FAN and 2", () -> full.x.flush(), STATE);
        full.x.tune(0, 3);
        Check.due("FAN is more", () -> full.x.flush(), 1);
    }

    private static void tuning() {
        Desk d = new Desk();
        Check.due("fan", () -> d.x.tune(0, 4), 3);
        Check.due("size", () -> d.x.tune(1, 6), 4);
        Check.due("pace", () -> d.x.tune(2, 0), 2);
        Check.due("fan", () -> d.x.tune(0, 2), 4);
        Check.due("size", () -> d.x.tune(1, 2), 6);
        Check.due("pace", () -> d.x.tune(2, 9), 0);
        Check.due("plan", () -> d.x.plan(true), true);
        Check.due("plan", () -> d.x.plan(true), false);
        Check.due("plan", () -> d.x.plan(false), true);
        Check.same("counts", d.counts(), "0 0 0 -1 0 2 2 9 0 0 0 0 0 0 0 0 9");
    }

    private static void drawing() {
        int seed = 1;
        int[] drawn = new int[9];
        for (int i = 0; i < drawn.length; i++) {
            seed = 1103515245 * seed + 12345;
            drawn[i] = seed / 65536 - (seed % 65536 < 0 ? 1 : 0);
            drawn[i] = Math.floorMod(drawn[i], 32768);
        }
        Desk d = new Desk();
        Check.due("a tick", () -> d.x.ticks(1), 0);
        boolean removed = drawn[1] % 4 == 0;
        int value = removed ? 100 : drawn[2] % 100;
        Check.same("its write", d.row(-1), drawn[0] % 60 + ":" + value + "/0");
        int next = removed ? 2 : 3;
        int after = seedAfter(1, next);
        Check.due("seed behind it", () -> d.x.seed(77), after);
        Check.due("tick", () -> d.x.count(14), 1);
        Check.due("seed told", () -> d.x.seed(Integer.MIN_VALUE), 77);
        Check.due("ticks", () -> d.x.ticks(60), 0);
        Check.due("tick", () -> d.x.count(14), 61);
        Check.due("puts", () -> d.x.count(10), 61);
        Check.due("one act a call", () -> d.x.count(16), 2);
        d.store("tick 999");
        for (int i = 0; i < 150; i++) {
            d.x.ticks(60);
        }
        Check.due("ticks to 9999", () -> d.x.count(14), 9999);
        d.x.ticks(60);
        Check.due("at most 9999", () -> d.x.count(14), 9999);
    }

    private static int seedAfter(int seed, int draws) {
        int now = seed;
        for (int i = 0; i < draws; i++) {
            now = 1103515245 * now + 12345;
        }
        return now;
    }

    private static void foresight() {
        for (String text : new String[] {"pace 0; fan 2; size 2", "levelled; pace 1; size 2", "size 3; fan 4; pace 2"}) {
            Desk d = Desk.of(text, "table 1 1 2 2 3 3");
            d.x.seed(4242);
            d.x.ticks(30);
            String before = d.counts();
            for (int n : new int[] {0, 1, 17, 60}) {
                int least = 100000;
                int greatest = -1;
                for (int first = 1; first <= 6; first++) {
                    Desk other = Desk.of(text, "table 1 1 2 2 3 3");
                    other.x.seed(4242);
                    other.x.ticks(30);
                    if (first == 1) {
                        int n0 = n;
                        int bill = other.x.count(13);
                        if (n > 0) {
                            other.x.ticks(n);
                            bill = other.x.count(13);
                        }
                        int keys = other.x.many();
                        int want = bill;
                        Check.due("trial bill", () -> d.x.trial(n0, false), want);
                        Check.due("trial count", () -> d.x.trial(n0, true), keys);
                        if (n > 0) {
                            other.x.undo();
                        }
                    }
                    other.x.seed(first);
                    if (n > 0) {
                        other.x.ticks(n);
                    }
                    int stalled = other.x.count(11);
                    least = Math.min(least, stalled);
                    greatest = Math.max(greatest, stalled);
                    if (first == 1) {
                        int n1 = n;
                        int runs = other.x.count(0);
                        Check.due("ahead stalled", () -> d.x.ahead(n1, false), stalled);
                        Check.due("ahead runs", () -> d.x.ahead(n1, true), runs);
                    }
                }
                int n2 = n;
                Check.due("span least", () -> d.x.span(n2, false), least);
                Check.due("span greatest", () -> d.x.span(n2, true), greatest);
            }
            Check.same("nothing stays", d.counts(), before);
        }
        spanOf("fan 4; size 3; pace 0", 60, 6);
        spanOf("fan 2; size 2; pace 0", 10, 1);
        Desk d = new Desk();
        for (int n : new int[] {-1, 61}) {
            Check.due("ahead", () -> d.x.ahead(n, false), BAD);
            Check.due("trial", () -> d.x.trial(n, false), BAD);
            Check.due("span", () -> d.x.span(n, false), BAD);
            Check.due("ticks", () -> d.x.ticks(n), BAD);
        }
    }

    /** Of all six seeds only that one has the least. */
    private static void spanOf(String text, int n, int seed) {
        Desk other = Desk.of(text);
        other.x.seed(seed);
        other.x.ticks(n);
        int stalled = other.x.count(11);
        Check.due("the least by one seed alone", () -> Desk.of(text).x.span(n, false), stalled);
        Check.due("the others are more", () -> Desk.of(text).x.span(n, true) > stalled, true);
    }

    private static void logRing() {
        Desk d = Desk.of("size 6; fan 4; pace 9");
        for (int i = 0; i < 61; i++) {
            d.store(i == 0 ? "tick 100" : "");
            if (i == 0) {
                d.x.image();
            } else {
                break;
            }
        }
        d.x.tune(1, 2);
        d.x.plan(true);
        d.x.seed(9);
        for (int i = 0; i < 8; i++) {
            d.x.ticks(60);
        }
        Check.due("sixty rows at most", () -> d.x.count(15), 60);
        Check.due("the sixtieth", () -> d.x.log(59, 0) >= 100, true);
        Check.due("none behind", () -> d.x.log(60, 0), -1);
        Check.due("none ahead", () -> d.x.log(-1, 0), -1);
        Check.due("far", () -> d.x.log(Integer.MAX_VALUE, 3), -1);
        Check.due("what 4", () -> d.x.log(0, 4), NO_SUCH);
        Check.due("what -1", () -> d.x.log(99, -1), NO_SUCH);
        int[] many = new int[4];
        int[] ticks = {-1, -1, -1, -1};
        for (int ago = 59; ago >= 0; ago--) {
            many[d.x.log(ago, 1)]++;
            ticks[d.x.log(ago, 1)] = d.x.log(ago, 0);
        }
        for (int kind = 0; kind < 4; kind++) {
            int k = kind;
            Check.due("led rows", () -> d.x.led(k, false), many[k]);
            Check.due("led tick", () -> d.x.led(k, true), ticks[k]);
        }
    }

    private static String all(Desk d) {
        StringBuilder told = new StringBuilder(d.logged()).append('|');
        for (int what = 0; what <= 15; what++) {
            told.append(d.x.count(what)).append(' ');
        }
        for (int run = -1; run < d.x.count(0); run++) {
            told.append(d.row(run)).append('|').append(run < 0 ? 0 : d.x.run(run, 0)).append('|');
        }
        for (int what = 0; what <= 4; what++) {
            told.append(d.x.job(what)).append(' ');
        }
        int seed = d.x.seed(0);
        d.x.seed(seed);
        return told.append(d.row(99)).append(d.x.slice()).append('|').append(seed).toString();
    }

    private static void undoing() {
        Desk d = Desk.of("fan 2; size 2; pace 1; run level 0 of 1 1 2 2; run level 0 of 3 3 4 4; run level 1 of 1 5");
        String[] before = new String[20];
        int acts = 0;
        for (int i = 0; i < 14; i++) {
            before[acts++] = all(d);
            switch (i) {
                case 0 -> d.x.work();
                case 1 -> d.x.halt();
                case 2 -> d.x.ticks(7);
                case 3 -> d.x.put(9, 9);
                case 4 -> d.x.remove(9);
                case 5 -> d.x.tune(0, 3);
                case 6 -> d.x.tune(1, 5);
                case 7 -> d.x.tune(2, 8);
                case 8 -> d.x.plan(true);
                case 9 -> d.x.put(7, 7);
                case 10 -> d.x.flush();
                case 11 -> d.x.plan(true);
                case 12 -> d.x.ticks(60);
                default -> d.x.put(1, 1);
            }
            int want = Math.min(12, acts);
            Check.due("acts that can be undone", () -> d.x.count(16), want);
        }
        d.x.seed(31);
        d.text("abc");
        for (int i = 13; i >= 2; i--) {
            int want = i - 2;
            Check.due("undo", () -> d.x.undo(), true);
            Check.same("as ahead of it", all(d), before[i]);
            Check.due("one less", () -> d.x.count(16), want);
        }
        Check.due("no more", () -> d.x.undo(), false);
        Check.same("as ahead of it", all(d), before[2]);
        Check.due("the tape stays", () -> d.x.end(3), true);
        d.x.put(5, 5);
        Check.due("one", () -> d.x.count(16), 1);
        Check.due("a wrong text", () -> d.store("fan"), BAD);
        Check.due("changes nothing", () -> d.x.count(16), 1);
        Check.due("a wrong law", () -> d.law("fan"), BAD);
        Check.due("changes nothing", () -> d.x.count(16), 1);
        d.x.undo();
        Check.due("fault is not undone", () -> d.x.fault(), 0);
        d.x.put(5, 5);
        d.store("");
        Check.due("none by a text", () -> d.x.count(16), 0);
        Check.due("none by a text", () -> d.x.undo(), false);
        d.x.put(5, 5);
        d.law("pace 1");
        Check.due("none by a law", () -> d.x.undo(), false);
        d.x.image();
        d.x.put(5, 5);
        Check.due("an act", () -> d.x.count(16), 1);
        d.x.back();
        Check.due("none by going back", () -> d.x.undo(), false);
    }

    private static void imaging() {
        Desk d = Desk.of("fan 2; size 2; pace 1; run level 0 of 1 1 2 2; run level 0 of 3 3 4 4");
        d.law("pace 2 if busy");
        d.x.seed(55);
        d.x.work();
        String kept = all(d);
        d.x.image();
        d.store("pace 9; run level 3 of 5 5");
        d.law("cost 1; cost 2");
        d.x.ticks(9);
        d.text("abcd");
        Check.due("back", () -> d.x.back(), true);
        Check.same("as it was kept", all(d), kept);
        Check.due("the tape stays", () -> d.x.end(4), true);
        Check.due("law as it was", () -> d.x.count(3), 1);
        Check.due("texts as they were", () -> d.x.count(2), 1);
        d.x.ticks(3);
        d.x.undo();
        d.x.plan(true);
        Check.due("back once more", () -> d.x.back(), true);
        Check.same("as it was kept", all(d), kept);
        d.x.put(1, 50);
        String later = all(d);
        d.x.image();
        d.x.undo();
        Check.same("undone", all(d), kept);
        d.x.back();
        Check.same("one image, the latest", all(d), later);
        Check.due("fault", () -> d.x.fault(), -1);
    }

    private static void greatest() {
        Desk d = Desk.of("size 2; fan 2; pace 0");
        d.law("cost 40; cost 40; cost 40; cost 40; cost 40; cost 40; cost 40; cost 40; cost 40; cost 40; cost 40; cost 40");
        for (int i = 0; i < 200; i++) {
            d.x.ticks(60);
        }
        Check.due("bill is 99999 at most", () -> d.x.count(13), 99999);
        Check.due("puts", () -> d.x.count(10), 12000);
        Check.due("rewrites are 99 at most", () -> mostRewritten(d) <= 99, true);
        Desk r = Desk.of("fan 2; pace 9; run level 3 of 1 1");
        for (int i = 0; i < 110; i++) {
            if (i % 11 == 0) {
                r.x.image();
            }
            r.store("run level 3 of 2 2");
            r.x.work();
            if (i % 11 == 9) {
                break;
            }
        }
        Check.same("rewritten with each merge", r.row(0), "1:1/10 2:2/10");
    }

    private static int mostRewritten(Desk d) {
        int most = 0;
        for (int run = 0; run < d.x.count(0); run++) {
            most = Math.max(most, d.x.run(run, 2));
        }
        return most;
    }
}
