import java.math.BigInteger;
import java.util.ArrayDeque;
import java.util.ArrayList;
import java.util.Arrays;
import java.util.List;
import java.util.NoSuchElementException;
import java.util.TreeMap;
import java.util.TreeSet;
import java.util.function.Predicate;
import java.util.function.ToIntFunction;

/** The document again in its plainest form, everything told anew at each question; for tests alone. */
final class Model {
    static final class Wrong extends RuntimeException {
        private static final long serialVersionUID = 1L;
        final int at;

        Wrong(int at) {
            this.at = at;
        }
    }

    static final class Run {
        int level;
        boolean input;
        TreeMap<Integer, int[]> entries = new TreeMap<>();

        Run copy() {
            Run r = new Run();
            r.level = level;
            r.input = input;
            entries.forEach((k, e) -> r.entries.put(k, e.clone()));
            return r;
        }
    }

    record Line(String kind, int n, Predicate<int[]> holds) {
    }

    static final class State {
        List<Run> runs = new ArrayList<>();
        Run table = new Run();
        Run output = null;
        int goal;
        int at;
        boolean levelled;
        int fan = 3;
        int size = 4;
        int pace = 2;
        int reads;
        int writes;
        int puts;
        int stalled;
        int longest;
        int bill;
        int tick;
        int seed = 1;
        int texts;
        List<Line> law = null;
        List<int[]> log = new ArrayList<>();

        State copy() {
            State s = new State();
            runs.forEach(r -> s.runs.add(r.copy()));
            s.table = table.copy();
            s.output = output == null ? null : output.copy();
            s.goal = goal;
            s.at = at;
            s.levelled = levelled;
            s.fan = fan;
            s.size = size;
            s.pace = pace;
            s.reads = reads;
            s.writes = writes;
            s.puts = puts;
            s.stalled = stalled;
            s.longest = longest;
            s.bill = bill;
            s.tick = tick;
            s.seed = seed;
            s.texts = texts;
            s.law = law;
            s.log.addAll(log);
            return s;
        }
    }

    State s = new State();
    State image = null;
    final ArrayDeque<State> acts = new ArrayDeque<>();
    final List<Integer> tape = new ArrayList<>();
    int fault = -1;

    // ---- the state

    List<Run> of(int level) {
        return s.runs.stream().filter(r -> r.level == level).toList();
    }

    int entriesOf(List<Run> runs) {
        return runs.stream().mapToInt(r -> r.entries.size()).sum();
    }

    boolean due(int level) {
        int many = of(level).size();
        if (!s.levelled) {
            return level == 3 ? many >= 2 : many >= s.fan;
        }
        return switch (level) {
            case 0 -> many >= s.fan;
            case 1 -> many > 1 || entriesOf(of(1)) > s.size * s.fan;
            case 2 -> many > 1 || entriesOf(of(2)) > s.size * s.fan * s.fan;
            default -> many > 1;
        };
    }

    int left() {
        return s.output == null ? 0
                : s.runs.stream().filter(r -> r.input).mapToInt(r -> r.entries.tailMap(s.at).size()).sum();
    }

    int debt() {
        int sum = left();
        for (int l = 0; l < 4; l++) {
            if (due(l)) {
                sum += entriesOf(of(l).stream().filter(r -> !r.input).toList());
            }
        }
        return sum;
    }

    int lawSum(String kind, int level) {
        if (s.law == null) {
            return 0;
        }
        int[] facts = {level, of(level).size(), entriesOf(of(level)), debt(), s.table.entries.size(), s.fan, s.tick % 100,
            s.output != null ? 1 : 0, s.levelled ? 0 : 1, s.table.entries.size() >= s.size ? 1 : 0};
        return s.law.stream().filter(l -> l.kind.equals(kind) && l.holds.test(facts)).mapToInt(Line::n).sum();
    }

    int jobLevel() {
        return s.output == null ? 0 : s.goal;
    }

    int slice() {
        return s.pace + debt() / 8 + lawSum("pace", jobLevel());
    }

    int worth(int level) {
        return 10 - level + lawSum("worth", level);
    }

    void note(int kind, int level, int many) {
        s.log.add(new int[] {s.tick, kind, level, many});
        if (s.log.size() > 60) {
            s.log.remove(0);
        }
    }

    void begin() {
        if (s.output != null) {
            return;
        }
        int best = -1;
        for (int l = 3; l >= 0; l--) {
            if (due(l) && (best < 0 || worth(l) >= worth(best))) {
                best = l;
            }
        }
        if (best < 0) {
            return;
        }
        for (Run r : s.runs) {
            r.input = r.level == best || s.levelled && best != 3 && r.level == best + 1;
        }
        s.goal = best == 3 ? 3 : best + 1;
        s.output = new Run();
        s.output.level = s.goal;
        s.at = 0;
        note(1, s.goal, left());
    }

    int slice(int n) {
        int done = 0;
        while (s.output != null && done < n) {
            TreeSet<Integer> keys = new TreeSet<>();
            int oldest = -1;
            for (int i = 0; i < s.runs.size(); i++) {
                if (s.runs.get(i).input) {
                    oldest = i;
                    keys.addAll(s.runs.get(i).entries.tailMap(s.at).keySet());
                }
            }
            int key = keys.first();
            List<Run> have = s.runs.stream().filter(r -> r.input && r.entries.containsKey(key)).toList();
            s.reads = Math.min(99999, s.reads + have.size());
            int[] first = have.get(0).entries.get(key);
            boolean older = s.runs.subList(oldest + 1, s.runs.size()).stream().anyMatch(r -> r.entries.containsKey(key));
            if (first[0] != 100 || older) {
                s.output.entries.put(key, new int[] {first[0], Math.min(99, first[1] + 1)});
                s.writes = Math.min(99999, s.writes + 1);
            }
            s.at = key + 1;
            done++;
            if (keys.size() == 1) {
                note(2, s.goal, s.output.entries.size());
                if (!s.output.entries.isEmpty()) {
                    s.runs.add(oldest + 1, s.output);
                }
                s.runs.removeIf(r -> r.input);
                s.output = null;
            }
        }
        return done;
    }

    void giveUp() {
        if (s.output != null) {
            note(3, s.goal, s.output.entries.size());
            s.runs.forEach(r -> r.input = false);
            s.output = null;
        }
    }

    void payAndGo(int least) {
        s.bill = Math.min(99999, s.bill + 1 + lawSum("cost", jobLevel()));
    }

    int write(int key, int value) {
        s.puts = Math.min(99999, s.puts + 1);
        s.table.entries.put(key, new int[] {value, 0});
        int stalls = 0;
        if (s.table.entries.size() >= s.size) {
            boolean stuck = false;
            while (!stuck && (of(0).size() >= s.fan + 2 || s.runs.size() == 12)) {
                begin();
                if (s.output == null) {
                    stuck = true;
                } else {
                    int n = Math.max(1, slice());
                    payAndGo(1);
                    slice(n);
                    stalls++;
                    s.stalled = Math.min(9999, s.stalled + 1);
                }
            }
            s.longest = Math.max(s.longest, Math.min(9999, stalls));
            if (!stuck) {
                pour();
            }
        }
        begin();
        if (s.output != null) {
            int n = slice();
            payAndGo(0);
            slice(n);
        }
        return stalls;
    }

    void pour() {
        note(0, 0, s.table.entries.size());
        s.runs.add(0, s.table);
        s.table = new Run();
    }

    int draw() {
        s.seed = 1103515245 * s.seed + 12345;
        return (int) ((s.seed & 0xffffffffL) / 65536 % 32768);
    }

    int advance(int n) {
        int stalls = 0;
        for (int i = 0; i < n; i++) {
            int key = draw() % 60;
            if (draw() % 4 == 0) {
                stalls += write(key, 100);
            } else {
                stalls += write(key, draw() % 100);
            }
            s.tick = Math.min(9999, s.tick + 1);
        }
        return stalls;
    }

    // ---- texts

    private String text;
    private int pos;

    void blanks() {
        while (pos < text.length() && text.charAt(pos) == ' ') {
            pos++;
        }
    }

    String peek() {
        blanks();
        if (pos >= text.length()) {
            return "";
        }
        int to = pos;
        char c = text.charAt(pos);
        if (c >= 'a' && c <= 'z') {
            while (to < text.length() && text.charAt(to) >= 'a' && text.charAt(to) <= 'z') {
                to++;
            }
        } else if (c >= '0' && c <= '9') {
            while (to < text.length() && text.charAt(to) >= '0' && text.charAt(to) <= '9') {
                to++;
            }
        } else {
            to++;
        }
        return text.substring(pos, to);
    }

    String next() {
        String p = peek();
        pos += p.length();
        return p;
    }

    void want(String word) {
        if (!peek().equals(word)) {
            throw new Wrong(pos);
        }
        next();
    }

    boolean isNumber() {
        String p = peek();
        return !p.isEmpty() && p.charAt(0) >= '0' && p.charAt(0) <= '9';
    }

    int number(int least, int most) {
        String p = peek();
        if (!isNumber() || p.length() > 3 || Integer.parseInt(p) < least || Integer.parseInt(p) > most) {
            throw new Wrong(pos);
        }
        next();
        return Integer.parseInt(p);
    }

    String takeText() {
        StringBuilder b = new StringBuilder();
        tape.forEach(x -> b.append((char) x.intValue()));
        tape.clear();
        return b.toString();
    }

    void storeText() {
        if (peek().isEmpty()) {
            return;
        }
        int lines = 0;
        while (true) {
            if (lines == 14) {
                peek();
                throw new Wrong(pos);
            }
            storeLine();
            lines++;
            if (peek().isEmpty()) {
                return;
            }
            want(";");
        }
    }

    void storeLine() {
        switch (peek()) {
            case "run" -> runLine();
            case "table" -> {
                next();
                List<int[]> pairs = pairs(12, false);
                pairs.forEach(p -> write(p[0], p[1]));
            }
            case "size" -> {
                next();
                int n = number(2, 6);
                giveUp();
                s.size = n;
            }
            case "fan" -> {
                next();
                int n = number(2, 4);
                giveUp();
                s.fan = n;
            }
            case "pace" -> {
                next();
                s.pace = number(0, 9);
            }
            case "tick" -> {
                next();
                s.tick = number(0, 999);
            }
            case "tiered", "levelled" -> {
                boolean l = next().equals("levelled");
                giveUp();
                s.levelled = l;
            }
            default -> throw new Wrong(pos);
        }
    }

    void runLine() {
        if (s.runs.size() >= 12) {
            throw new Wrong(pos);
        }
        next();
        want("level");
        Run r = new Run();
        r.level = number(s.runs.isEmpty() ? 0 : s.runs.get(s.runs.size() - 1).level, 3);
        want("of");
        pairs(20, true).forEach(p -> r.entries.put(p[0], new int[] {p[1], 0}));
        giveUp();
        s.runs.add(r);
    }

    List<int[]> pairs(int most, boolean rising) {
        List<int[]> pairs = new ArrayList<>();
        int least = 0;
        do {
            peek();
            if (pairs.size() == most) {
                throw new Wrong(pos);
            }
            int key = number(least, 59);
            pairs.add(new int[] {key, number(0, 100)});
            least = rising ? key + 1 : 0;
        } while (isNumber());
        return pairs;
    }

    List<Line> lawText() {
        List<Line> lines = new ArrayList<>();
        if (peek().isEmpty()) {
            return lines;
        }
        while (true) {
            String kind = peek();
            if (lines.size() == 12 || !List.of("pace", "cost", "worth").contains(kind)) {
                throw new Wrong(pos);
            }
            next();
            int n = number(0, 40);
            Predicate<int[]> c = f -> true;
            if (peek().equals("if")) {
                next();
                c = any(0);
            }
            lines.add(new Line(kind, n, c));
            if (peek().isEmpty()) {
                return lines;
            }
            want(";");
        }
    }

    Predicate<int[]> any(int deep) {
        Predicate<int[]> c = all(deep);
        while (peek().equals("or")) {
            next();
            c = c.or(all(deep));
        }
        return c;
    }

    Predicate<int[]> all(int deep) {
        Predicate<int[]> c = atom(deep);
        while (peek().equals("and")) {
            next();
            c = c.and(atom(deep));
        }
        return c;
    }

    Predicate<int[]> atom(int deep) {
        String p = peek();
        switch (p) {
            case "not", "(" -> {
                if (deep == 6) {
                    throw new Wrong(pos);
                }
                next();
                if (p.equals("not")) {
                    return atom(deep + 1).negate();
                }
                Predicate<int[]> c = any(deep + 1);
                want(")");
                return c;
            }
            case "busy", "tiered", "full" -> {
                next();
                int fact = 7 + List.of("busy", "tiered", "full").indexOf(p);
                return f -> f[fact] == 1;
            }
            default -> {
                ToIntFunction<int[]> one = sum();
                String sign = peek();
                if (!sign.equals("<") && !sign.equals(">")) {
                    throw new Wrong(pos);
                }
                next();
                ToIntFunction<int[]> other = sum();
                return sign.equals("<") ? f -> one.applyAsInt(f) < other.applyAsInt(f)
                        : f -> one.applyAsInt(f) > other.applyAsInt(f);
            }
        }
    }

    ToIntFunction<int[]> sum() {
        List<ToIntFunction<int[]>> parts = new ArrayList<>();
        do {
            if (!parts.isEmpty()) {
                next();
            }
            int fact = List.of("level", "runs", "entries", "debt", "table", "fan", "tick").indexOf(peek());
            if (fact >= 0) {
                next();
                parts.add(f -> f[fact]);
            } else {
                int n = number(0, 999);
                parts.add(f -> n);
            }
        } while (peek().equals("+"));
        return f -> parts.stream().mapToInt(p -> p.applyAsInt(f)).sum();
    }

    // ---- the face

    int feed(int... five) {
        if (tape.size() + 20 > 400) {
            return -1;
        }
        for (int n : five) {
            for (byte b : BigInteger.valueOf(n & 0xffffffffL).add(BigInteger.ONE.shiftLeft(32)).toByteArray()) {
                tape.add(b & 255);
            }
            tape.remove(tape.size() - 5);
        }
        return tape.size();
    }

    boolean end(int n) {
        if (n < 0 || n > tape.size()) {
            return false;
        }
        while (tape.size() > n) {
            tape.remove(tape.size() - 1);
        }
        return true;
    }

    int store() {
        text = takeText();
        pos = 0;
        State before = s;
        s = s.copy();
        fault = -1;
        try {
            storeText();
        } catch (Wrong w) {
            fault = w.at;
            s = before;
            throw new IllegalArgumentException();
        }
        if (before.texts == 12) {
            s = before;
            throw new UnsupportedOperationException();
        }
        acts.clear();
        return ++s.texts;
    }

    int law() {
        text = takeText();
        pos = 0;
        fault = -1;
        List<Line> read;
        try {
            read = lawText();
        } catch (Wrong w) {
            fault = w.at;
            throw new IllegalArgumentException();
        }
        s.law = read;
        acts.clear();
        return read.size();
    }

    Run runAt(int run) {
        if (run < 0 || run >= s.runs.size()) {
            throw new IndexOutOfBoundsException();
        }
        return s.runs.get(run);
    }

    int run(int run, int what) {
        Run r = runAt(run);
        return switch (what) {
            case 0 -> r.level;
            case 1 -> r.entries.size();
            case 2 -> rewritten(r);
            case 3 -> r.input ? 1 : 0;
            case 4 -> 100 * r.entries.size() / entriesOf(s.runs);
            default -> throw new NoSuchElementException();
        };
    }

    int rewritten(Run r) {
        return r.entries.values().stream().mapToInt(e -> e[1]).max().orElse(0);
    }

    int entry(int run, int k, int what) {
        Run r = run == -1 ? s.table : run == 99 ? s.output == null ? new Run() : s.output : runAt(run);
        if (what < 0 || what > 2) {
            throw new NoSuchElementException();
        }
        List<Integer> keys = new ArrayList<>(r.entries.keySet());
        if (k < 0 || k >= keys.size()) {
            return -1;
        }
        return what == 0 ? keys.get(k) : r.entries.get(keys.get(k))[what - 1];
    }

    int bits(Predicate<Run> p) {
        int b = 0;
        for (int i = 0; i < s.runs.size(); i++) {
            b += p.test(s.runs.get(i)) ? 1 << i : 0;
        }
        return b;
    }

    int level(int level, int what) {
        if (level < 0 || level > 3) {
            throw new IndexOutOfBoundsException();
        }
        return switch (what) {
            case 0 -> bits(r -> r.level == level);
            case 1 -> entriesOf(of(level));
            case 2 -> due(level) ? 1 : 0;
            case 3 -> worth(level);
            default -> throw new NoSuchElementException();
        };
    }

    int job(int what) {
        if (what < 0 || what > 4) {
            throw new NoSuchElementException();
        }
        if (s.output == null) {
            return -1;
        }
        return new int[] {s.goal, bits(r -> r.input), s.output.entries.size(), s.at, left()}[what];
    }

    void act() {
        acts.addLast(s.copy());
        if (acts.size() > 12) {
            acts.removeFirst();
        }
    }

    static void bad(boolean is) {
        if (is) {
            throw new IllegalArgumentException();
        }
    }

    static void key(int key) {
        if (key < 0 || key > 59) {
            throw new IndexOutOfBoundsException();
        }
    }

    static void what(int what, int most) {
        if (what < 0 || what > most) {
            throw new NoSuchElementException();
        }
    }

    int ticks(int n) {
        bad(n < 1 || n > 60);
        act();
        return advance(n);
    }

    int put(int key, int value) {
        key(key);
        bad(value < 0 || value > 99);
        act();
        return write(key, value);
    }

    int remove(int key) {
        key(key);
        act();
        return write(key, 100);
    }

    int work() {
        boolean any = s.output != null;
        for (int l = 0; l < 4; l++) {
            any |= due(l);
        }
        if (!any) {
            throw new IllegalStateException();
        }
        act();
        begin();
        int n = slice();
        payAndGo(0);
        return slice(n);
    }

    int halt() {
        if (s.output == null) {
            throw new IllegalStateException();
        }
        act();
        int n = s.output.entries.size();
        giveUp();
        return n;
    }

    int flush() {
        int n = s.table.entries.size();
        if (n == 0 || of(0).size() >= s.fan + 2 || s.runs.size() >= 12) {
            throw new IllegalStateException();
        }
        act();
        pour();
        return n;
    }

    boolean plan(boolean levelled) {
        act();
        giveUp();
        boolean was = s.levelled;
        s.levelled = levelled;
        return was != levelled;
    }

    int tune(int what, int n) {
        what(what, 2);
        int[][] bounds = {{2, 4}, {2, 6}, {0, 9}};
        bad(n < bounds[what][0] || n > bounds[what][1]);
        act();
        int was = new int[] {s.fan, s.size, s.pace}[what];
        if (what == 2) {
            s.pace = n;
            return was;
        }
        giveUp();
        if (what == 0) {
            s.fan = n;
        } else {
            s.size = n;
        }
        return was;
    }

    List<Run> looked() {
        List<Run> all = new ArrayList<>(s.runs);
        if (!s.table.entries.isEmpty()) {
            all.add(0, s.table);
        }
        return all;
    }

    int get(int key) {
        key(key);
        for (Run r : looked()) {
            if (r.entries.containsKey(key)) {
                int v = r.entries.get(key)[0];
                return v == 100 ? -1 : v;
            }
        }
        return -1;
    }

    int looks(int key) {
        key(key);
        int took = 0;
        for (Run r : looked()) {
            took++;
            if (r.entries.containsKey(key)) {
                break;
            }
        }
        return took;
    }

    List<Integer> foundKeys() {
        List<Integer> keys = new ArrayList<>();
        for (int k = 0; k < 60; k++) {
            if (get(k) != -1) {
                keys.add(k);
            }
        }
        return keys;
    }

    int many() {
        return foundKeys().size();
    }

    int rank(int k) {
        List<Integer> keys = foundKeys();
        return k < 0 || k >= keys.size() ? -1 : keys.get(k);
    }

    int total(int from, int to) {
        key(from);
        key(to);
        bad(to < from);
        return foundKeys().stream().filter(k -> k >= from && k <= to).mapToInt(this::get).sum();
    }

    int over(boolean again) {
        if (again) {
            return s.puts == 0 ? 0 : (int) (100L * s.writes / s.puts);
        }
        return many() == 0 ? 0 : 100 * (s.table.entries.size() + entriesOf(s.runs)) / many();
    }

    int[] sizes() {
        return s.runs.stream().mapToInt(r -> r.entries.size()).toArray();
    }

    final TreeMap<Integer, Integer> memo = new TreeMap<>();

    int cost(int[] c, int i, int j) {
        if (i == j) {
            return 0;
        }
        Integer known = memo.get(i * 100 + j);
        if (known != null) {
            return known;
        }
        int sum = Arrays.stream(c, i, j + 1).sum();
        int best = Integer.MAX_VALUE;
        for (int m = i; m < j; m++) {
            best = Math.min(best, cost(c, i, m) + cost(c, m + 1, j) + sum);
        }
        memo.put(i * 100 + j, best);
        return best;
    }

    int cheapest(boolean split) {
        int[] c = sizes();
        memo.clear();
        if (c.length < 2) {
            return split ? -1 : 0;
        }
        int best = cost(c, 0, c.length - 1);
        if (!split) {
            return best;
        }
        for (int m = 1; m < c.length; m++) {
            if (cost(c, 0, m - 1) + cost(c, m, c.length - 1) + Arrays.stream(c).sum() == best) {
                return m;
            }
        }
        return -7;
    }

    int deepest() {
        return foundKeys().stream().mapToInt(this::looks).max().orElse(0);
    }

    List<int[]> rows() {
        List<Integer> t = new ArrayList<>(tape);
        tape.clear();
        bad(t.size() > 40 || t.size() % 2 == 1);
        List<int[]> rows = new ArrayList<>();
        for (int i = 0; i < t.size(); i += 2) {
            bad(t.get(i) > 59 || t.get(i + 1) > 101);
            rows.add(new int[] {t.get(i), t.get(i + 1)});
        }
        return rows;
    }

    int valueIn(Run r, int key) {
        return r.entries.containsKey(key) ? r.entries.get(key)[0] : 101;
    }

    long wrong(Run r, List<int[]> rows) {
        return rows.stream().filter(row -> valueIn(r, row[0]) != row[1]).count();
    }

    int may() {
        List<int[]> rows = rows();
        return bits(r -> wrong(r, rows) < 2);
    }

    int likely() {
        List<int[]> rows = rows();
        for (int w = 0; w < 2; w++) {
            for (int i = 0; i < s.runs.size(); i++) {
                if (wrong(s.runs.get(i), rows) == w) {
                    return i;
                }
            }
        }
        return -1;
    }

    int look() {
        List<int[]> rows = rows();
        List<Run> fit = s.runs.stream().filter(r -> wrong(r, rows) < 2).toList();
        if (fit.size() < 2) {
            return -1;
        }
        int best = -1;
        int least = 100;
        for (int k = 0; k < 60; k++) {
            int[] parts = new int[102];
            for (Run r : fit) {
                parts[valueIn(r, k)]++;
            }
            int most = Arrays.stream(parts).max().getAsInt();
            if (most < least) {
                least = most;
                best = k;
            }
        }
        return best;
    }

    int game(int[] c, int i, int j) {
        if (i > j) {
            return 0;
        }
        Integer known = memo.get(i * 100 + j);
        if (known != null) {
            return known;
        }
        int best = Math.max(c[i] - game(c, i + 1, j), c[j] - game(c, i, j - 1));
        memo.put(i * 100 + j, best);
        return best;
    }

    int lead() {
        memo.clear();
        int[] c = sizes();
        return game(c, 0, c.length - 1);
    }

    int side() {
        memo.clear();
        int[] c = sizes();
        int n = c.length;
        if (n == 0) {
            return 0;
        }
        return c[0] - game(c, 1, n - 1) >= c[n - 1] - game(c, 0, n - 2) ? 0 : 1;
    }

    private int mostShared;
    private int[] firstWay;

    void ways(int[] partner, int run, int n) {
        if (run == n) {
            int sum = 0;
            for (int i = 0; i < n; i++) {
                if (partner[i] > i) {
                    TreeSet<Integer> both = new TreeSet<>(s.runs.get(i).entries.keySet());
                    both.retainAll(s.runs.get(partner[i]).entries.keySet());
                    sum += both.size();
                }
            }
            if (sum > mostShared) {
                mostShared = sum;
                firstWay = partner.clone();
            }
            return;
        }
        if (partner[run] >= 0) {
            ways(partner, run + 1, n);
            return;
        }
        ways(partner, run + 1, n);
        for (int other = run + 1; other < n; other++) {
            if (partner[other] < 0) {
                partner[run] = other;
                partner[other] = run;
                ways(partner, run + 1, n);
                partner[run] = -1;
                partner[other] = -1;
            }
        }
    }

    int pairs(int run) {
        if (run != -1) {
            runAt(run);
        }
        int n = Math.min(8, s.runs.size());
        int[] partner = new int[n];
        Arrays.fill(partner, -1);
        mostShared = -1;
        ways(partner, 0, n);
        return run == -1 ? mostShared : run >= 8 ? -1 : firstWay[run];
    }

    int rests() {
        int[][] writer = {{2, s.size - s.table.entries.size()}, {0, -1}};
        int[][] merger = {{debt() / 4, -of(0).size()}, {1, 2}};
        int bits = 0;
        for (int w = 0; w < 2; w++) {
            for (int m = 0; m < 2; m++) {
                if (writer[1 - w][m] <= writer[w][m] && merger[w][1 - m] <= merger[w][m]) {
                    bits |= 1 << 2 * w + m;
                }
            }
        }
        return bits;
    }

    int odds(int n) {
        bad(n < 0 || n > 5);
        BigInteger all = BigInteger.valueOf(60).pow(n);
        BigInteger none = BigInteger.valueOf(60 - many()).pow(n);
        return all.subtract(none).multiply(BigInteger.valueOf(10000)).divide(all).intValue();
    }

    int most(int what) {
        what(what, 1);
        int best = -1;
        int weight = -1;
        for (int i = 0; i < s.runs.size(); i++) {
            int w = what == 0 ? s.runs.get(i).entries.size() : rewritten(s.runs.get(i));
            if (w > weight) {
                weight = w;
                best = i;
            }
        }
        return best;
    }

    int twins() {
        int n = 0;
        for (Run a : s.runs) {
            for (Run b : s.runs) {
                n += a != b && a.level == b.level && a.entries.size() == b.entries.size() ? 1 : 0;
            }
        }
        return n / 2;
    }

    State then(int n, int seed) {
        State before = s;
        s = s.copy();
        s.seed = seed;
        advance(n);
        State then = s;
        s = before;
        return then;
    }

    int ahead(int n, boolean runs) {
        bad(n < 0 || n > 60);
        State t = then(n, 1);
        return runs ? t.runs.size() : t.stalled;
    }

    int trial(int n, boolean keys) {
        bad(n < 0 || n > 60);
        State t = then(n, s.seed);
        if (!keys) {
            return t.bill;
        }
        State before = s;
        s = t;
        int many = many();
        s = before;
        return many;
    }

    int span(int n, boolean most) {
        bad(n < 0 || n > 60);
        TreeSet<Integer> all = new TreeSet<>();
        for (int seed = 1; seed <= 6; seed++) {
            all.add(then(n, seed).stalled);
        }
        return most ? all.last() : all.first();
    }

    int led(int kind, boolean tick) {
        what(kind, 3);
        List<int[]> rows = s.log.stream().filter(r -> r[1] == kind).toList();
        return !tick ? rows.size() : rows.isEmpty() ? -1 : rows.get(rows.size() - 1)[0];
    }

    int log(int ago, int what) {
        what(what, 3);
        return ago < 0 || ago >= s.log.size() ? -1 : s.log.get(s.log.size() - 1 - ago)[what];
    }

    int seed(int n) {
        int was = s.seed;
        s.seed = n;
        return was;
    }

    boolean undo() {
        if (acts.isEmpty()) {
            return false;
        }
        s = acts.removeLast();
        return true;
    }

    void image() {
        image = s.copy();
    }

    boolean back() {
        if (image == null) {
            return false;
        }
        s = image.copy();
        acts.clear();
        return true;
    }

    int count(int what) {
        int[] all = {s.runs.size(), s.table.entries.size(), s.texts, s.law == null ? -1 : s.law.size(), s.levelled ? 1 : 0,
            s.fan, s.size, s.pace, s.reads, s.writes, s.puts, s.stalled, s.longest, s.bill, s.tick, s.log.size(), acts.size()};
        return what < 0 || what >= all.length ? -1 : all[what];
    }
}
