import java.util.Random;
import java.util.concurrent.Callable;

/** Runs of drawn calls on the program and on the model: each answer, and now and then all that can be asked. */
public final class ModelTest {
    private static final int RUNS = 2500;
    /** So many calls of one object are promised. */
    private static final int CALLS = 512;
    private static final int[] FAR = {-1, -2, 99, 100, 101, 60, 61, 59, 400, 401, 256, Integer.MAX_VALUE, Integer.MIN_VALUE};

    private final Random random;
    private final RunLedger x = new RunLedger();
    private final Model m = new Model();
    private final StringBuilder told = new StringBuilder();
    private boolean right = true;
    private int calls = 0;

    private ModelTest(long seed) {
        random = new Random(seed);
    }

    public static void main(String[] args) {
        int runs = args.length > 0 ? Integer.parseInt(args[0]) : RUNS;
        long first = args.length > 1 ? Long.parseLong(args[1]) : 1;
        for (int i = 0; i < runs; i++) {
            ModelTest test = new ModelTest(first + i);
            boolean right = test.play();
            Check.same("run " + (first + i) + test.told, String.valueOf(right), "true");
        }
        Check.tell();
    }

    private boolean play() {
        int style = random.nextInt(5);
        while (right && calls < CALLS - 150) {
            if (style != 0 && random.nextInt(3) > 0 || random.nextInt(4) == 0) {
                act(style);
            } else {
                ask();
            }
            if (random.nextInt(12) == 0) {
                much(25);
            }
        }
        much(6);
        return right;
    }

    private void both(String call, Callable<?> got, Callable<?> want) {
        if (!right || calls >= CALLS) {
            return;
        }
        calls++;
        String g = Check.said(got);
        String w = Check.said(want);
        if (!g.equals(w)) {
            right = false;
            told.append(' ').append(call).append(" answered ").append(g).append(", the model ").append(w);
        }
    }

    private int n(int to) {
        return random.nextInt(to);
    }

    private int near(int least, int most) {
        if (random.nextInt(12) == 0) {
            return random.nextBoolean() ? FAR[n(FAR.length)] : random.nextInt();
        }
        return least - 1 + n(most - least + 3);
    }

    private int within(int least, int most) {
        return random.nextInt(15) == 0 ? near(least, most) : least + n(most - least + 1);
    }

    private void text(String text) {
        byte[] bytes = new byte[(text.length() + 19) / 20 * 20];
        for (int i = 0; i < text.length(); i++) {
            bytes[i] = (byte) text.charAt(i);
        }
        feed(bytes, text.length());
    }

    private void feed(byte[] bytes, int length) {
        both("end", () -> x.end(0), () -> m.end(0));
        for (int at = 0; at < bytes.length; at += 20) {
            int[] f = new int[5];
            for (int i = 0; i < 20; i++) {
                f[i / 4] = f[i / 4] << 8 | bytes[at + i] & 255;
            }
            both("feed", () -> x.feed(f[0], f[1], f[2], f[3], f[4]), () -> m.feed(f));
        }
        both("end", () -> x.end(length), () -> m.end(length));
    }

    private void rows() {
        if (n(12) == 0) {
            byte[] bytes = new byte[60];
            random.nextBytes(bytes);
            feed(bytes, n(50));
            return;
        }
        byte[] bytes = new byte[60];
        int many = n(8);
        int of = m.s.runs.isEmpty() ? 0 : n(m.s.runs.size());
        for (int i = 0; i < many; i++) {
            int key = n(60);
            if (!m.s.runs.isEmpty() && n(3) > 0) {
                Object[] keys = m.s.runs.get(of).entries.keySet().toArray();
                key = (Integer) keys[n(keys.length)];
            }
            bytes[2 * i] = (byte) (n(150) == 0 ? 60 : key);
            int value = m.s.runs.isEmpty() ? 101 : m.valueIn(m.s.runs.get(of), key);
            bytes[2 * i + 1] = (byte) (n(8) == 0 ? n(103) : value);
        }
        feed(bytes, n(50) == 0 ? 2 * many + 1 : 2 * many);
    }

    private String blank() {
        return n(12) == 0 ? n(2) == 0 ? "" : "  " : " ";
    }

    private String storeText() {
        StringBuilder t = new StringBuilder();
        int lines = n(30) == 0 ? 14 + n(2) : n(6);
        int level = m.s.runs.isEmpty() ? 0 : m.s.runs.get(m.s.runs.size() - 1).level;
        for (int i = 0; i < lines; i++) {
            t.append(i == 0 ? "" : ";" + blank());
            switch (lines > 10 ? 4 + n(8) : n(12)) {
                case 0, 1, 2, 3 -> {
                    level = Math.min(3, level + (n(3) == 0 ? 1 : 0));
                    t.append("run level ").append(n(40) == 0 ? n(5) : level).append(" of");
                    int key = n(12);
                    for (int k = n(n(6) == 0 ? 22 : 8); k >= 0 && key < 60; k--) {
                        t.append(' ').append(key).append(blank().isEmpty() ? "  " : " ").append(n(5) == 0 ? 100 : n(100));
                        key += 1 + n(n(4) == 0 ? 9 : 3) - (n(200) == 0 ? 3 : 0);
                    }
                }
                case 4, 5 -> {
                    t.append("table");
                    for (int k = n(lines > 10 ? 2 : n(8) == 0 ? 14 : 6); k >= 0; k--) {
                        t.append(' ').append(n(300) == 0 ? 60 : n(60)).append(' ').append(n(5) == 0 ? 100 : n(100));
                    }
                }
                case 6 -> t.append("size").append(blank()).append(within(2, 6));
                case 7 -> t.append("fan").append(blank()).append(within(2, 4));
                case 8 -> t.append("pace").append(blank()).append(within(0, 9));
                case 9 -> t.append("tick").append(blank()).append(n(3) == 0 ? n(1001) : n(100));
                case 10 -> t.append("tiered");
                default -> t.append("levelled");
            }
        }
        return t.toString();
    }

    private String lawText() {
        StringBuilder t = new StringBuilder();
        int lines = n(20) == 0 ? 0 : 1 + n(n(8) == 0 ? 13 : 5);
        for (int i = 0; i < lines; i++) {
            t.append(i == 0 ? "" : ";" + blank());
            t.append(new String[] {"pace", "cost", "worth"}[n(3)]).append(blank()).append(n(20) == 0 ? n(42) : n(12));
            if (n(4) > 0 && t.length() < 300) {
                t.append(" if ");
                any(t, n(20) == 0 ? 7 : 3);
            }
        }
        return t.toString();
    }

    private void any(StringBuilder t, int deep) {
        atom(t, deep);
        for (int i = n(3); i > 0 && t.length() < 320; i--) {
            t.append(n(2) == 0 ? " or " : " and ");
            atom(t, deep);
        }
    }

    private void atom(StringBuilder t, int deep) {
        int kind = deep == 0 ? 2 + n(4) : n(deep > 3 ? 3 : 6);
        switch (kind) {
            case 0 -> {
                t.append("not ");
                atom(t, deep - 1);
            }
            case 1 -> {
                t.append('(').append(blank());
                if (deep > 3) {
                    atom(t, deep - 1);
                } else {
                    any(t, deep - 1);
                }
                t.append(')');
            }
            case 2 -> t.append(new String[] {"busy", "tiered", "full"}[n(3)]);
            default -> {
                sum(t);
                t.append(blank()).append(n(2) == 0 ? '<' : '>').append(blank());
                sum(t);
            }
        }
    }

    private void sum(StringBuilder t) {
        for (int i = n(3); i >= 0; i--) {
            if (n(2) == 0) {
                t.append(n(10) == 0 ? n(1001) : n(30));
            } else {
                t.append(new String[] {"level", "runs", "entries", "debt", "table", "fan", "tick"}[n(7)]);
            }
            t.append(i > 0 ? n(2) == 0 ? "+" : " + " : "");
        }
    }

    private String spoilt(String text) {
        if (n(4) > 0) {
            return text.length() > 400 ? text.substring(0, 400) : text;
        }
        StringBuilder t = new StringBuilder(text);
        String signs = " ;()<>+=0123456789abeflnorstuz\tA\u00e9\u0000";
        for (int i = n(3); i >= 0; i--) {
            int at = n(t.length() + 1);
            switch (n(4)) {
                case 0 -> t.insert(at, signs.charAt(n(signs.length())));
                case 1 -> t.setLength(at);
                case 2 -> t.insert(at, new String[] {" if ", " not ", "(", ")", " and ", " ; ", " size 3", " 7 ", "run", " level "}[n(10)]);
                default -> {
                    if (at < t.length()) {
                        t.deleteCharAt(at);
                    }
                }
            }
        }
        return t.length() > 400 ? t.substring(0, 400) : t.toString();
    }

    private void act(int style) {
        int key = near(0, 59);
        int value = near(0, 99);
        int few = within(1, style == 4 ? 60 : 9);
        switch (n(style == 1 ? 8 : style == 2 ? 12 : 16)) {
            case 0 -> {
                String t = spoilt(storeText());
                text(t);
                both("store " + t, x::store, m::store);
                both("fault of " + t, x::fault, () -> m.fault);
            }
            case 1 -> {
                String t = spoilt(lawText());
                text(t);
                both("law " + t, x::law, m::law);
                both("fault of " + t, x::fault, () -> m.fault);
            }
            case 2, 3 -> both("put", () -> x.put(key, value), () -> m.put(key, value));
            case 4 -> both("remove", () -> x.remove(key), () -> m.remove(key));
            case 5, 6 -> both("ticks", () -> x.ticks(few), () -> m.ticks(few));
            case 7, 8 -> both("work", x::work, m::work);
            case 9 -> both("halt", x::halt, m::halt);
            case 10 -> both("flush", x::flush, m::flush);
            case 11 -> {
                boolean to = random.nextBoolean();
                both("plan", () -> x.plan(to), () -> m.plan(to));
            }
            case 12 -> {
                int what = near(0, 2);
                int n = what == 0 ? near(2, 4) : what == 1 ? near(2, 6) : near(0, 9);
                both("tune", () -> x.tune(what, n), () -> m.tune(what, n));
            }
            case 13 -> both("undo", x::undo, m::undo);
            case 14 -> both("image", () -> imaged(x), () -> imaged(m));
            default -> {
                if (n(2) == 0) {
                    both("back", x::back, m::back);
                } else {
                    int to = random.nextInt();
                    both("seed", () -> x.seed(to), () -> m.seed(to));
                }
            }
        }
    }

    private static boolean imaged(RunLedger ledger) {
        ledger.image();
        return true;
    }

    private static boolean imaged(Model model) {
        model.image();
        return true;
    }

    private void ask() {
        int one = near(0, 59);
        int other = near(0, 59);
        int few = near(0, 60);
        int run = near(0, 11);
        int what = near(0, 4);
        boolean is = random.nextBoolean();
        switch (n(16)) {
            case 0 -> both("total", () -> x.total(one, other), () -> m.total(one, other));
            case 1 -> both("ahead", () -> x.ahead(few, is), () -> m.ahead(few, is));
            case 2 -> both("trial", () -> x.trial(few, is), () -> m.trial(few, is));
            case 3 -> both("span", () -> x.span(few, is), () -> m.span(few, is));
            case 4 -> {
                rows();
                both("may", x::may, m::may);
            }
            case 5 -> {
                rows();
                both("likely", x::likely, m::likely);
            }
            case 6 -> {
                rows();
                both("look", x::look, m::look);
            }
            case 7 -> both("run", () -> x.run(run, what), () -> m.run(run, what));
            case 8 -> both("entry", () -> x.entry(run, one, what), () -> m.entry(run, one, what));
            case 9 -> both("level", () -> x.level(what, run), () -> m.level(what, run));
            case 10 -> both("job", () -> x.job(run), () -> m.job(run));
            case 11 -> both("log", () -> x.log(few, what), () -> m.log(few, what));
            case 12 -> both("led", () -> x.led(what, is), () -> m.led(what, is));
            case 13 -> both("end", () -> x.end(few), () -> m.end(few));
            case 14 -> both("feed", () -> x.feed(one, few, run, what, 7), () -> m.feed(one, few, run, what, 7));
            default -> {
                both("get", () -> x.get(one), () -> m.get(one));
                both("looks", () -> x.looks(one), () -> m.looks(one));
                both("rank", () -> x.rank(few), () -> m.rank(few));
                both("pairs", () -> x.pairs(run), () -> m.pairs(run));
                both("odds", () -> x.odds(what), () -> m.odds(what));
                both("most", () -> x.most(what), () -> m.most(what));
                both("count", () -> x.count(run), () -> m.count(run));
            }
        }
    }

    /** All that can be asked, of which each is asked once in so many times. */
    private void much(int times) {
        some(times, "debt", x::debt, m::debt);
        some(times, "slice", x::slice, m::slice);
        some(times, "many", x::many, m::many);
        some(times, "over", () -> x.over(false), () -> m.over(false));
        some(times, "again", () -> x.over(true), () -> m.over(true));
        some(times, "cheapest", () -> x.cheapest(false), () -> m.cheapest(false));
        some(times, "split", () -> x.cheapest(true), () -> m.cheapest(true));
        some(times, "deepest", x::deepest, m::deepest);
        some(times, "lead", x::lead, m::lead);
        some(times, "side", x::side, m::side);
        some(times, "rests", x::rests, m::rests);
        some(times, "twins", x::twins, m::twins);
        some(times, "fault", x::fault, () -> m.fault);
        for (int i = -1; i <= 17; i++) {
            int n = i;
            some(times, "count " + n, () -> x.count(n), () -> m.count(n));
            some(times, "odds", () -> x.odds(n), () -> m.odds(n));
            some(times, "most", () -> x.most(n), () -> m.most(n));
            some(times, "job", () -> x.job(n), () -> m.job(n));
            some(times, "pairs", () -> x.pairs(n), () -> m.pairs(n));
            some(times, "led", () -> x.led(n, true), () -> m.led(n, true));
            some(times, "led", () -> x.led(n, false), () -> m.led(n, false));
            for (int w = -1; w <= 5; w++) {
                int what = w;
                some(times, "run", () -> x.run(n, what), () -> m.run(n, what));
                some(times, "level", () -> x.level(n, what), () -> m.level(n, what));
            }
        }
        for (int k = -1; k <= 60; k++) {
            int key = k;
            some(times, "get", () -> x.get(key), () -> m.get(key));
            some(times, "looks", () -> x.looks(key), () -> m.looks(key));
            some(times, "rank", () -> x.rank(key), () -> m.rank(key));
            for (int w = 0; w < 4; w++) {
                int what = w;
                some(times, "log", () -> x.log(key, what), () -> m.log(key, what));
            }
        }
        for (int run : new int[] {-1, 99, n(12), n(12)}) {
            for (int k = 0; k < 40; k++) {
                int key = k;
                int what = n(3);
                some(times, "entry", () -> x.entry(run, key, what), () -> m.entry(run, key, what));
            }
        }
    }

    private void some(int times, String call, Callable<?> got, Callable<?> want) {
        if (n(times) == 0) {
            both(call, got, want);
        }
    }
}
