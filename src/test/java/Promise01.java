import java.lang.reflect.Field;
import java.lang.reflect.Method;
import java.lang.reflect.Modifier;
import java.util.HashMap;
import java.util.Map;
import java.util.Set;
import java.util.TreeSet;

/** RunLedger(), and the face. */
final class Promise01 extends Promise {
    private static final String[] FACE = {
        "int feed(int,int,int,int,int)", "boolean end(int)", "int store()", "int law()", "int fault()", "int run(int,int)",
        "int entry(int,int,int)", "int level(int,int)", "int job(int)", "int debt()", "int slice()", "int ticks(int)",
        "int put(int,int)", "int remove(int)", "int work()", "int halt()", "int flush()", "boolean plan(boolean)",
        "int tune(int,int)", "int get(int)", "int looks(int)", "int many()", "int rank(int)", "int total(int,int)",
        "int over(boolean)", "int cheapest(boolean)", "int deepest()", "int may()", "int likely()", "int look()",
        "int lead()", "int side()", "int pairs(int)", "int rests()", "int odds(int)", "int most(int)", "int twins()",
        "int ahead(int,boolean)", "int trial(int,boolean)", "int span(int,boolean)", "int led(int,boolean)",
        "int log(int,int)", "int seed(int)", "boolean undo()", "void image()", "boolean back()", "int count(int)"};

    // A store without entries.
    static void promise01_withoutEntries() {
        RunLedger x = new RunLedger();
        is(x.count(0), 0);
        is(x.count(1), 0);
        is(x.entry(NONE, 0, 0), NONE);
        is(x.many(), 0);
        refuses(OUT, () -> x.run(0, 0));
        for (int level = 0; level < 4; level++) {
            is(x.level(level, 0), 0);
            is(x.level(level, 1), 0);
            is(x.level(level, 2), 0);
            is(x.level(level, 3), 10 - level);
        }
    }

    // SIZE 4 at first, FAN 3, PACE 2, PLAN 0 tiered; READS, WRITES, PUTS, STALLED, LONGEST, BILL, TICK 0; no LAW.
    static void promise01_countsAtFirst() {
        is(new Desk().counts(), "0 0 0 -1 0 3 4 2 0 0 0 0 0 0 0 0 0");
    }

    // JOB: none at first.
    static void promise01_noJobAtFirst() {
        Desk d = new Desk();
        is(d.job(), "-1 -1 -1 -1 -1");
        is(d.row(99), "");
        is(d.x.debt(), 0);
    }

    // SEED 1 at first.
    static void promise01_seedAtFirst() {
        is(new RunLedger().seed(7), 1);
    }

    // The TAPE is empty, nothing can be undone, no IMAGE is kept, THE LOG has no row.
    static void promise01_nothingKeptAtFirst() {
        RunLedger x = new RunLedger();
        is(x.end(1), false);
        is(x.undo(), false);
        is(x.back(), false);
        is(x.log(0, 0), NONE);
        is(x.fault(), NONE);
    }

    // One object knows nothing of another one.
    static void promise01_eachByItself() {
        Desk one = of("size 2; run level 0 of 1 1; levelled").with("pace 9");
        one.x.ticks(20);
        one.x.image();
        is(new Desk().all(), new Desk().all());
        is(new Desk().counts(), "0 0 0 -1 0 3 4 2 0 0 0 0 0 0 0 0 0");
        is(new RunLedger().back(), false);
        is(new RunLedger().seed(1), 1);
    }

    // An object is used for at most 512 calls: each of these is answered.
    static void promise01_fiveHundredTwelveCalls() {
        RunLedger x = new RunLedger();
        for (int i = 0; i < 509; i++) {
            x.put(i % 60, i % 100);
        }
        is(x.count(10), 509);
        is(x.many(), 60);
        is(x.get(7), 487 % 100);
    }

    // The public face: NONE.
    static void promise01_constantNone() {
        is(RunLedger.NONE, -1);
    }

    // The public face: the class is public and final and has these methods, and no other public one.
    static void promise01_face() {
        TreeSet<String> want = new TreeSet<>(java.util.List.of(FACE));
        TreeSet<String> got = new TreeSet<>();
        for (Method method : RunLedger.class.getDeclaredMethods()) {
            if (Modifier.isPublic(method.getModifiers())) {
                StringBuilder told = new StringBuilder(method.getReturnType() + " " + method.getName() + "(");
                for (Class<?> kind : method.getParameterTypes()) {
                    told.append(told.charAt(told.length() - 1) == '(' ? "" : ",").append(kind);
                }
                got.add(told.append(")").toString());
            }
        }
        is(got, want);
        is(Modifier.isPublic(RunLedger.class.getModifiers()) && Modifier.isFinal(RunLedger.class.getModifiers()), true);
        is(RunLedger.class.getConstructors().length, 1);
    }

    // The public face: each method declares the exceptions that stand behind it, and no other ones.
    static void promise01_exceptionsOfTheFace() {
        String i = "IndexOutOfBoundsException", n = "NoSuchElementException", a = "IllegalArgumentException";
        String s = "IllegalStateException", u = "UnsupportedOperationException";
        Map<String, Set<String>> want = new HashMap<>();
        for (String name : "run entry level".split(" ")) {
            want.put(name, Set.of(i, n));
        }
        for (String name : "job most led log".split(" ")) {
            want.put(name, Set.of(n));
        }
        for (String name : "law ticks may likely look odds ahead trial span".split(" ")) {
            want.put(name, Set.of(a));
        }
        for (String name : "work halt flush".split(" ")) {
            want.put(name, Set.of(s));
        }
        for (String name : "remove get looks pairs".split(" ")) {
            want.put(name, Set.of(i));
        }
        want.put("store", Set.of(a, u));
        want.put("put", Set.of(i, a));
        want.put("total", Set.of(i, a));
        want.put("tune", Set.of(n, a));
        for (Method method : RunLedger.class.getDeclaredMethods()) {
            if (Modifier.isPublic(method.getModifiers())) {
                Set<String> got = new TreeSet<>();
                for (Class<?> kind : method.getExceptionTypes()) {
                    got.add(kind.getSimpleName());
                }
                is(method.getName() + got, method.getName() + new TreeSet<>(want.getOrDefault(method.getName(), Set.of())));
            }
        }
    }

    // The public face: the one constant is NONE, the constructor takes nothing, and no other member can be seen.
    static void promise01_noOtherMember() {
        for (Field field : RunLedger.class.getDeclaredFields()) {
            boolean isNone = field.getName().equals("NONE");
            is(field.getName() + Modifier.toString(field.getModifiers() & ~Modifier.STATIC & ~Modifier.FINAL),
                    field.getName() + (isNone ? "public" : "private"));
            is(!isNone || field.getModifiers() == (Modifier.PUBLIC | Modifier.STATIC | Modifier.FINAL), true);
        }
        for (Method method : RunLedger.class.getDeclaredMethods()) {
            is(Modifier.isPublic(method.getModifiers()) || Modifier.isPrivate(method.getModifiers()), true);
            is(Modifier.isPublic(method.getModifiers()) && Modifier.isStatic(method.getModifiers()), false);
        }
        is(RunLedger.class.getDeclaredConstructors().length, 1);
        is(RunLedger.class.getConstructors()[0].getParameterCount(), 0);
        is(RunLedger.class.getSuperclass(), Object.class);
        is(RunLedger.class.getInterfaces().length, 0);
    }
}
