import java.util.List;
import java.util.function.Consumer;

/** undo: UNDONE: the latest ACT not undone yet. */
final class Promise45 extends Promise {
    private static Desk begun() {
        Desk d = of("fan 2; size 3; pace 1; tick 5; run level 0 of 1 1 2 2; run level 0 of 3 3 4 4; run level 1 of 1 5").with("cost 2");
        d.x.put(30, 1);
        d.law("cost 2; pace 1 if debt > 90");
        return d;
    }

    private static final List<Consumer<RunLedger>> ACTS = List.of(
            x -> x.ticks(1), x -> x.ticks(60), x -> x.put(9, 9), x -> x.put(30, 1), x -> x.remove(9), x -> x.work(), x -> x.halt(),
            x -> x.flush(), x -> x.plan(true), x -> x.plan(false), x -> x.tune(0, 4), x -> x.tune(0, 2), x -> x.tune(1, 5),
            x -> x.tune(1, 3), x -> x.tune(2, 9), x -> x.tune(2, 1));

    private static String brief(Desk d) {
        return d.job() + " " + d.row(NONE) + " " + d.levels() + " " + d.x.count(8) + " " + d.x.count(13) + " " + d.x.count(14);
    }

    private static String logAt(Desk d, int ago) {
        return d.x.log(ago, 0) + " " + d.x.log(ago, 1) + ";";
    }

    // Whether there was one: none at first.
    static void promise45_noneAtFirst() {
        Desk d = begun();
        is(d.x.count(16), 0);
        String before = d.state() + d.logged();
        is(d.x.undo(), false);
        is(d.state() + d.logged(), before);
    }

    // ACTS, each of them, also if it changes nothing: all is as ahead of it.
    static void promise45_eachAct() {
        for (Consumer<RunLedger> act : ACTS) {
            Desk d = begun();
            String before = d.state() + d.logged();
            act.accept(d.x);
            is(d.x.count(16), 1);
            is(d.x.undo(), true);
            is(d.state() + d.logged(), before);
            is(d.x.count(16), 0);
            is(d.x.undo(), false);
            is(d.state() + d.logged(), before);
        }
    }

    // TICKS of one call are one.
    static void promise45_ticksOfOneCall() {
        Desk d = new Desk();
        d.x.ticks(60);
        is(d.x.count(16), 1);
        d.x.ticks(1);
        is(d.x.count(16), 2);
        is(d.x.undo(), true);
        is(d.x.count(14), 60);
        is(d.x.undo(), true);
        is(d.x.count(14), 0);
        is(d.x.undo(), false);
    }

    // The latest ACT not undone yet: one behind another, back to the first.
    static void promise45_oneBehindAnother() {
        Desk d = begun();
        String[] before = new String[5];
        for (int i = 0; i < 5; i++) {
            before[i] = brief(d);
            ACTS.get(i).accept(d.x);
        }
        for (int i = 4; i >= 0; i--) {
            is(d.x.undo(), true);
            is(brief(d), before[i]);
            is(d.x.count(16), i);
        }
        is(d.x.undo(), false);
    }

    // 12 are remembered: the twelfth may be undone, the thirteenth not.
    static void promise45_twelveAreRemembered() {
        Desk d = new Desk();
        for (int i = 1; i <= 14; i++) {
            d.x.put(7, i);
            is(d.x.count(16), Math.min(12, i));
        }
        for (int i = 13; i >= 2; i--) {
            is(d.x.undo(), true);
            is(d.x.get(7), i);
        }
        is(d.x.count(16), 0);
        is(d.x.undo(), false);
        is(d.x.get(7), 2);
    }

    // Behind some that were undone others are remembered, twelve at most.
    static void promise45_othersBehindIt() {
        Desk d = new Desk();
        for (int i = 1; i <= 15; i++) {
            d.x.put(7, i);
        }
        for (int i = 0; i < 5; i++) {
            d.x.undo();
        }
        is(d.x.get(7), 10);
        is(d.x.count(16), 7);
        for (int i = 21; i <= 26; i++) {
            d.x.put(7, i);
        }
        is(d.x.count(16), 12);
        for (int i = 25; i >= 21; i--) {
            is(d.x.undo(), true);
            is(d.x.get(7), i);
        }
        for (int i = 10; i >= 4; i--) {
            is(d.x.undo(), true);
            is(d.x.get(7), i);
        }
        is(d.x.undo(), false);
    }

    // All is as ahead of it: SEED and TICK, what was READ and paid, THE LOG, STALLED.
    static void promise45_seedToo() {
        Desk d = of("size 2; fan 2; pace 0");
        d.x.seed(42);
        d.x.ticks(14);
        is(d.x.count(11) > 0, true);
        String before = d.state() + d.logged();
        d.x.ticks(40);
        d.x.seed(5);
        is(d.x.undo(), true);
        is(d.state() + d.logged(), before);
    }

    // All is as ahead of it: THE LOG that is full, too, and what follows from RUNS.
    static void promise45_fullLog() {
        Desk d = of("fan 2; pace 0; run level 3 of 1 1; run level 3 of 2 2; tick 1");
        for (int i = 0; i < 30; i++) {
            d.x.work();
            d.x.halt();
        }
        d.store("tick 2");
        for (int i = 0; i < 5; i++) {
            d.x.work();
            d.x.halt();
        }
        is(d.x.count(15), 60);
        String last = logAt(d, 0) + logAt(d, 9) + logAt(d, 10) + logAt(d, 59);
        is(last, "2 3;2 1;1 3;1 1;");
        d.x.tune(2, 9);
        d.x.work();
        is(logAt(d, 59), "1 1;");
        is(logAt(d, 0), "2 2;");
        is(d.x.undo(), true);
        is(logAt(d, 0) + logAt(d, 9) + logAt(d, 10) + logAt(d, 59), last);
        d.x.undo();
        d.x.undo();
        is(logAt(d, 0), "2 1;");
        is(logAt(d, 58), "1 1;");
        is(logAt(d, 59), "1 3;");
        d.store("tick 3");
        is(logAt(d, 0), "2 1;");
        is(logAt(d, 59), "1 3;");
        d.x.image();
        d.x.halt();
        is(logAt(d, 0), "3 3;");
        is(d.x.back(), true);
        is(logAt(d, 0), "2 1;");
        is(logAt(d, 59), "1 3;");
    }

    // But for the TAPE and fault().
    static void promise45_tapeAndFaultStay() {
        Desk d = new Desk();
        d.x.put(1, 1);
        refuses(BAD, () -> d.store("size"));
        d.text("size 5");
        is(d.x.undo(), true);
        is(d.x.fault(), 4);
        is(d.x.end(6), true);
        is(d.x.store(), 1);
        is(d.x.count(6), 5);
    }

    // But for THE IMAGE.
    static void promise45_imageStays() {
        Desk d = new Desk();
        d.x.put(1, 1);
        d.x.image();
        is(d.x.undo(), true);
        is(d.x.get(1), NONE);
        is(d.x.back(), true);
        is(d.x.get(1), 1);
    }

    // A text: none are remembered: of THE STORE, of THE LAW, one without a LINE too.
    static void promise45_aTextForgets() {
        for (String text : new String[] {"", "size 4", "pace 2"}) {
            Desk d = new Desk();
            d.x.put(1, 1);
            d.x.put(2, 2);
            d.store(text);
            is(d.x.count(16), 0);
            is(d.x.undo(), false);
            is(d.x.get(1), 1);
        }
        for (String text : new String[] {"", "cost 1"}) {
            Desk d = new Desk();
            d.x.put(1, 1);
            d.law(text);
            is(d.x.count(16), 0);
            is(d.x.undo(), false);
        }
    }

    // A text's WRITES are no ACTS.
    static void promise45_aTextsWritesAreNoActs() {
        is(of("table 1 1 2 2; size 2; levelled").x.count(16), 0);
    }

    // A text that is refused changes nothing: they are remembered.
    static void promise45_aRefusedTextForgetsNone() {
        Desk d = new Desk();
        for (int i = 0; i < 12; i++) {
            d.store("");
        }
        d.x.put(1, 1);
        refuses(BAD, () -> d.store("size"));
        refuses(BAD, () -> d.law("pace"));
        refuses(FULL, () -> d.store(""));
        is(d.x.count(16), 1);
        is(d.x.undo(), true);
        is(d.x.get(1), NONE);
    }

    // Going back: none are remembered; if no IMAGE was kept, nothing happens.
    static void promise45_goingBackForgets() {
        Desk d = new Desk();
        d.x.put(1, 1);
        is(d.x.back(), false);
        is(d.x.count(16), 1);
        d.x.image();
        is(d.x.count(16), 1);
        d.x.put(2, 2);
        is(d.x.back(), true);
        is(d.x.count(16), 0);
        is(d.x.undo(), false);
        is(d.x.get(1), 1);
    }

    // A call that throws is no ACT.
    static void promise45_aRefusedCallIsNoAct() {
        Desk d = new Desk();
        refuses(OUT, () -> d.x.put(60, 1));
        refuses(BAD, () -> d.x.put(1, 100));
        refuses(OUT, () -> d.x.remove(-1));
        refuses(BAD, () -> d.x.ticks(61));
        refuses(STATE, () -> d.x.work());
        refuses(STATE, () -> d.x.halt());
        refuses(STATE, () -> d.x.flush());
        refuses(NO_SUCH, () -> d.x.tune(3, 3));
        refuses(BAD, () -> d.x.tune(0, 1));
        is(d.x.count(16), 0);
        is(d.x.undo(), false);
    }

    // What is asked is no ACT.
    static void promise45_askingIsNoAct() {
        Desk d = of("size 2; table 1 1 2 2; run level 0 of 1 1");
        d.x.ahead(9, true);
        d.x.trial(9, true);
        d.x.span(9, true);
        d.x.get(1);
        d.tape(1, 1).x.may();
        d.x.seed(3);
        d.x.image();
        is(d.x.count(16), 0);
    }
}
