/** What is asked of a store as it stands: promises 21 to 38. */
public final class AskTest {
    private static final Object OUT = IndexOutOfBoundsException.class;
    private static final Object BAD = IllegalArgumentException.class;

    public static void main(String[] args) {
        finding();
        amounts();
        cheapest();
        fitting();
        wrongRows();
        turns();
        pairing();
        resting();
        odds();
        mostAndTwins();
        Check.tell();
    }

    private static void finding() {
        RunLedger x = Desk.of("run level 0 of 1 10 5 20; run level 1 of 1 11 7 70 9 100; run level 1 of 9 9 20 20; table 5 21").x;
        Check.due("newest", () -> x.get(1), 10);
        Check.due("table", () -> x.get(5), 21);
        Check.due("older", () -> x.get(7), 70);
        Check.due("removed", () -> x.get(9), -1);
        Check.due("nowhere", () -> x.get(0), -1);
        Check.due("value of the oldest", () -> x.get(20), 20);
        Check.due("looks at the table", () -> x.looks(5), 1);
        Check.due("looks at a run", () -> x.looks(1), 2);
        Check.due("looks at two", () -> x.looks(7), 3);
        Check.due("looks for a removed one", () -> x.looks(9), 3);
        Check.due("looks for one that is nowhere", () -> x.looks(0), 4);
        Check.due("looks for the last", () -> x.looks(20), 4);
        Check.due("count", () -> x.many(), 4);
        Check.due("rank 0", () -> x.rank(0), 1);
        Check.due("rank 1", () -> x.rank(1), 5);
        Check.due("rank 3", () -> x.rank(3), 20);
        Check.due("rank 4", () -> x.rank(4), -1);
        Check.due("rank -1", () -> x.rank(-1), -1);
        Check.due("rank least", () -> x.rank(Integer.MIN_VALUE), -1);
        Check.due("total", () -> x.total(1, 5), 31);
        Check.due("total of all", () -> x.total(0, 59), 121);
        Check.due("total of one", () -> x.total(7, 7), 70);
        Check.due("total of a removed one", () -> x.total(9, 9), 0);
        Check.due("total of a lesser second", () -> x.total(7, 6), BAD);
        Check.due("total of no key", () -> x.total(60, 6), OUT);
        Check.due("deepest", () -> x.deepest(), 4);
        x.remove(20);
        Check.due("deepest", () -> x.deepest(), 3);
        Check.due("the table has it", () -> x.looks(20), 1);
        RunLedger none = Desk.of("run level 0 of 1 100").x;
        Check.due("no table is looked at", () -> none.looks(1), 1);
        Check.due("deepest without", () -> none.deepest(), 0);
        Check.due("over without", () -> none.over(false), 0);
        Check.due("again without", () -> none.over(true), 0);
        Check.due("total without", () -> none.total(0, 59), 0);
        Check.due("nothing to look at", () -> new RunLedger().looks(3), 0);
        RunLedger zero = Desk.of("run level 0 of 1 0; run level 0 of 1 5").x;
        Check.due("a value of 0 is found", () -> zero.get(1), 0);
        Check.due("and counted", () -> zero.many(), 1);
    }

    private static void amounts() {
        RunLedger x = Desk.of("run level 0 of 1 10 5 20; run level 1 of 1 11 7 70 9 100; table 5 21").x;
        Check.due("six entries by three keys", () -> x.over(false), 200);
        x.put(6, 6);
        Check.due("seven by four", () -> x.over(false), 175);
        Check.due("no writes", () -> x.over(true), 0);
        RunLedger merged = Desk.of("fan 2; pace 9; run level 0 of 1 1; run level 0 of 2 2 3 3; table 5 21").x;
        Check.due("three writes by one put", () -> merged.over(true), 300);
        merged.put(8, 8);
        merged.put(9, 9);
        Check.due("by three", () -> merged.over(true), 100);
        Check.due("share rounded down", () -> Desk.of("run level 0 of 1 1; run level 0 of 1 1 2 2").x.run(0, 4), 33);
        Check.due("share rounded down", () -> Desk.of("run level 0 of 1 1; run level 0 of 1 1 2 2").x.run(1, 4), 66);
    }

    /** A desk whose runs have so many entries, all of level 3. */
    private static Desk sized(int... sizes) {
        Desk d = new Desk();
        for (int size : sizes) {
            StringBuilder text = new StringBuilder("run level 3 of");
            for (int key = 0; key < size; key++) {
                text.append(' ').append(key).append(" 1");
            }
            d.store(text.toString());
        }
        return d;
    }

    private static void cheapest() {
        Check.due("of none", () -> new RunLedger().cheapest(false), 0);
        Check.due("split of none", () -> new RunLedger().cheapest(true), -1);
        Check.due("of one", () -> sized(5).x.cheapest(false), 0);
        Check.due("split of one", () -> sized(5).x.cheapest(true), -1);
        Check.due("of two", () -> sized(5, 7).x.cheapest(false), 12);
        Check.due("split of two", () -> sized(5, 7).x.cheapest(true), 1);
        Check.due("5 and 1 first", () -> sized(5, 1, 7).x.cheapest(false), 6 + 13);
        Check.due("split", () -> sized(5, 1, 7).x.cheapest(true), 2);
        Check.due("split", () -> sized(7, 1, 5).x.cheapest(true), 1);
        Check.due("the fewest of like ones", () -> sized(4, 1, 4).x.cheapest(true), 1);
        Check.due("by halves", () -> sized(2, 2, 2, 2).x.cheapest(false), 16);
        Check.due("by halves", () -> sized(2, 2, 2, 2).x.cheapest(true), 2);
        Check.due("small ones first", () -> sized(1, 1, 1, 1, 20).x.cheapest(false), 8 + 24);
        Check.due("small ones first", () -> sized(1, 1, 1, 1, 20).x.cheapest(true), 4);
    }

    private static void fitting() {
        Desk d = Desk.of("run level 0 of 1 10 2 20 3 30; run level 1 of 1 10 2 21; run level 2 of 1 10 2 100 4 40");
        Check.due("all of no rows", () -> d.tape().x.may(), 7);
        Check.due("all with one wrong", () -> d.tape(1, 10, 2, 20).x.may(), 7);
        Check.due("at most one wrong", () -> d.tape(1, 10, 2, 20, 3, 30).x.may(), 1);
        Check.due("used up", () -> d.x.end(1), false);
        Check.due("none has it", () -> d.tape(3, 101, 2, 99, 4, 101).x.may(), 2);
        Check.due("removed", () -> d.tape(2, 100, 4, 40, 3, 101).x.may(), 4);
        Check.due("no run", () -> d.tape(0, 1, 5, 1).x.may(), 0);
        Check.due("one row twice", () -> d.tape(2, 20, 2, 20).x.may(), 1);
        Check.due("likely of no rows is the newest", () -> d.tape().x.likely(), 0);
        Check.due("likely", () -> d.tape(1, 10, 2, 21).x.likely(), 1);
        Check.due("likely with one wrong", () -> d.tape(2, 100, 4, 41).x.likely(), 2);
        Check.due("of several the newest", () -> d.tape(0, 1).x.likely(), 0);
        Check.due("of two the newest", () -> d.tape(0, 1, 3, 101).x.likely(), 1);
        Check.due("none fits", () -> d.tape(0, 1, 5, 1).x.likely(), -1);
        Check.due("look: key 2 parts all", () -> d.tape().x.look(), 2);
        Check.due("look: of two the least key", () -> d.tape(3, 101, 1, 9).x.look(), 2);
        Check.due("look with one", () -> d.tape(1, 10, 2, 20, 3, 30).x.look(), -1);
        Check.due("look with none", () -> d.tape(0, 1, 5, 1).x.look(), -1);
        Check.due("likely of no runs", () -> new Desk().tape().x.likely(), -1);
        Check.due("look of no runs", () -> new Desk().tape().x.look(), -1);
        Check.due("may of no runs", () -> new Desk().tape().x.may(), 0);
        Desk two = Desk.of("run level 0 of 7 7; run level 0 of 7 7");
        Check.due("look at runs that are alike", () -> two.tape().x.look(), 0);
        Check.due("look at twelve that are alike", () -> sized(1, 1, 1, 1, 1, 1, 1, 1, 1, 1, 1, 1).tape().x.look(), 0);
        Desk three = Desk.of("run level 0 of 7 7 9 1; run level 0 of 7 7; run level 0 of 7 8 9 1; run level 0 of 7 8 9 2");
        Check.due("none is a value, too", () -> three.tape().x.look(), 7);
        Desk four = Desk.of("run level 0 of 8 7 9 1; run level 0 of 8 7; run level 0 of 8 8 9 3; run level 0 of 8 8 9 2");
        Check.due("the greatest part is the least", () -> four.tape().x.look(), 9);
    }

    private static void wrongRows() {
        Desk d = Desk.of("run level 0 of 1 10");
        int[][] wrong = {{1}, {1, 10, 2}, {60, 1}, {255, 1}, {1, 102}, {1, 255}, {1, 10, 2, 102}, new int[41], new int[42]};
        for (int[] tape : wrong) {
            Check.due("may", () -> d.tape(tape).x.may(), BAD);
            Check.due("used up", () -> d.x.end(1), false);
            Check.due("likely", () -> d.tape(tape).x.likely(), BAD);
            Check.due("used up", () -> d.x.end(1), false);
            Check.due("look", () -> d.tape(tape).x.look(), BAD);
            Check.due("used up", () -> d.x.end(1), false);
        }
        Check.due("forty bytes", () -> d.tape(new int[40]).x.may(), 0);
        Check.due("forty bytes", () -> d.tape(new int[40]).x.likely(), -1);
        Check.due("59 and 101", () -> d.tape(59, 101).x.may(), 1);
        Check.due("no text was read", () -> d.x.fault(), -1);
    }

    private static void turns() {
        Check.due("of none", () -> new RunLedger().lead(), 0);
        Check.due("side of none", () -> new RunLedger().side(), 0);
        Check.due("of one", () -> sized(6).x.lead(), 6);
        Check.due("side of one", () -> sized(6).x.side(), 0);
        Check.due("of two", () -> sized(6, 9).x.lead(), 3);
        Check.due("side of two", () -> sized(6, 9).x.side(), 1);
        Check.due("side of two", () -> sized(9, 6).x.side(), 0);
        Check.due("like ones", () -> sized(6, 6).x.side(), 0);
        Check.due("the middle one is the other's", () -> sized(2, 9, 3).x.lead(), -4);
        Check.due("both ends are as good", () -> sized(2, 9, 3).x.side(), 0);
        Check.due("four", () -> sized(3, 9, 1, 2).x.lead(), 2 - 3 + 9 - 1);
        Check.due("four", () -> sized(3, 9, 1, 2).x.side(), 1);
    }

    private static void pairing() {
        Check.due("of none", () -> new RunLedger().pairs(-1), 0);
        Check.due("no run", () -> new RunLedger().pairs(0), OUT);
        Check.due("no run", () -> sized(1).x.pairs(1), OUT);
        Check.due("below", () -> sized(1).x.pairs(-2), OUT);
        Check.due("one alone", () -> sized(1).x.pairs(0), -1);
        Check.due("two", () -> sized(3, 2).x.pairs(-1), 2);
        Check.due("two", () -> sized(3, 2).x.pairs(0), 1);
        Check.due("two", () -> sized(3, 2).x.pairs(1), 0);
        Check.due("three: none is the least", () -> sized(3, 3, 3).x.pairs(0), -1);
        Check.due("three", () -> sized(3, 3, 3).x.pairs(1), 2);
        Check.due("three", () -> sized(3, 3, 3).x.pairs(2), 1);
        Check.due("four", () -> sized(3, 3, 3, 3).x.pairs(-1), 6);
        Check.due("four", () -> sized(3, 3, 3, 3).x.pairs(0), 1);
        Check.due("four", () -> sized(3, 3, 3, 3).x.pairs(2), 3);
        Desk d = Desk.of("run level 0 of 1 1 2 2; run level 0 of 5 5; run level 0 of 2 2 5 100; run level 0 of 1 1 2 3");
        Check.due("the most together", () -> d.x.pairs(-1), 3);
        Check.due("far ones", () -> d.x.pairs(0), 3);
        Check.due("far ones", () -> d.x.pairs(1), 2);
        Check.due("far ones", () -> d.x.pairs(3), 0);
        Desk none = Desk.of("run level 0 of 1 1; run level 0 of 2 2");
        Check.due("nothing shared", () -> none.x.pairs(-1), 0);
        Check.due("no pair for nothing", () -> none.x.pairs(0), -1);
        Desk nine = sized(1, 1, 1, 1, 1, 1, 1, 1, 5, 5);
        Check.due("the newest eight", () -> nine.x.pairs(-1), 4);
        Check.due("behind these", () -> nine.x.pairs(8), -1);
        Check.due("behind these", () -> nine.x.pairs(9), -1);
        Check.due("no run", () -> nine.x.pairs(10), OUT);
        Check.due("of these", () -> nine.x.pairs(7), 6);
    }

    private static void resting() {
        // Of a new one: (2,0) (4,0) / (0,1) (-1,2).
        Check.due("new", () -> new RunLedger().rests(), 1 | 2);
        // A full table: writing without work brings him nothing; DEBT 0 and LEVEL 0 empty.
        RunLedger full = Desk.of("size 6; table 1 1 2 2 3 3 4 4 5 5").x;
        full.tune(1, 2);
        // (2,0) (-3,0) / (0,1) (-1,2).
        Check.due("too full", () -> full.rests(), 1 | 8);
        RunLedger owed = Desk.of("fan 2; size 2; run level 0 of 1 1 2 2; run level 0 of 1 1 2 2; run level 0 of 1 1").x;
        // DEBT 5: (2,1) (2,-3) / (0,1) (-1,2).
        Check.due("owed", () -> owed.rests(), 1);
        owed.tune(0, 4);
        // DEBT 0: (2,0) (2,-3) / (0,1) (-1,2).
        Check.due("not owed", () -> owed.rests(), 1);
    }

    private static void odds() {
        Desk d = sized(15);
        Check.due("no tick", () -> d.x.odds(0), 0);
        Check.due("one", () -> d.x.odds(1), 2500);
        Check.due("two", () -> d.x.odds(2), 4375);
        Check.due("three", () -> d.x.odds(3), 5781);
        Check.due("five", () -> d.x.odds(5), 7626);
        Check.due("nothing found", () -> new RunLedger().odds(5), 0);
        Check.due("one of sixty", () -> sized(1).x.odds(1), 166);
        StringBuilder all = new StringBuilder();
        for (int key = 0; key < 60; key++) {
            all.append(key % 20 != 0 ? "" : key == 0 ? "run level 0 of" : "; run level 0 of").append(' ').append(key).append(" 1");
        }
        Desk full = new Desk();
        for (String line : all.toString().split("; ")) {
            full.store(line);
        }
        Check.due("all found", () -> full.x.odds(5), 10000);
        Check.due("all found, no tick", () -> full.x.odds(0), 0);
    }

    private static void mostAndTwins() {
        Check.due("of none", () -> new RunLedger().most(0), -1);
        Check.due("of none", () -> new RunLedger().most(1), -1);
        Check.due("largest", () -> sized(1, 3, 3).x.most(0), 1);
        Check.due("no rewrites: the newest", () -> sized(1, 3, 3).x.most(1), 0);
        Check.due("twins of none", () -> new RunLedger().twins(), 0);
        Check.due("twins", () -> sized(1, 3, 3).x.twins(), 1);
        Check.due("twins", () -> sized(3, 3, 3).x.twins(), 3);
        Check.due("of another level", () -> Desk.of("run level 0 of 1 1; run level 1 of 1 1").x.twins(), 0);
        Desk d = Desk.of("fan 2; pace 9; run level 0 of 1 1; run level 0 of 2 2; run level 1 of 5 5 6 6; run level 2 of 3 3");
        Check.due("not rewritten yet", () -> d.x.most(1), 0);
        d.x.work();
        Check.due("rewritten", () -> d.x.most(1), 0);
        Desk zero = Desk.of("fan 2; pace 9; run level 0 of 0 1; run level 0 of 0 2; run level 1 of 5 5 6 6");
        zero.x.work();
        Check.due("rewrites of the key 0", () -> zero.x.run(0, 2), 1);
        d.x.tune(0, 4);
        d.x.put(9, 9);
        d.x.flush();
        Check.due("the rewritten one", () -> d.x.most(1), 1);
    }
}
