import java.util.NoSuchElementException;

/** A merge scheduler for sorted runs, with a ledger of what its merges cost. */
public final class RunLedger {
    public static final int NONE = -1;

    private static final int KEYS = 60;
    private static final int REMOVED = 100;
    private static final int ABSENT = 101;
    private static final int LEVELS = 4;
    private static final int MOST_RUNS = 12;
    private static final int MOST_TEXTS = 12;
    private static final int MOST_TICKS = 60;
    private static final int MOST_UNDOS = 12;
    private static final int LOG_ROWS = 60;
    private static final int TAPE_BYTES = 400;
    private static final int OUTPUT_RUN = 99;
    private static final int MOST_COUNTED = 99999;
    private static final int MOST_STALLED = 9999;
    private static final int FAR_ABOVE_ANY_RUN = 1000000;

    private static final int FLUSHED = 0;
    private static final int BEGAN = 1;
    private static final int ENDED = 2;
    private static final int GIVEN_UP = 3;

    /** Each word has a blank behind it; those that are facts of a law come first. */
    private static final String WORDS = "level runs entries debt table fan tick busy tiered full pace cost worth run of size levelled if or and not ";
    private static final int LEVEL_WORD = 0;
    private static final int TABLE_WORD = 4;
    private static final int FAN_WORD = 5;
    private static final int TICK_WORD = 6;
    private static final int BUSY_WORD = 7;
    private static final int TIERED_WORD = 8;
    private static final int FULL_WORD = 9;
    private static final int PACE_WORD = 10;
    private static final int COST_WORD = 11;
    private static final int WORTH_WORD = 12;
    private static final int RUN_WORD = 13;
    private static final int OF_WORD = 14;
    private static final int SIZE_WORD = 15;
    private static final int LEVELLED_WORD = 16;
    private static final int IF_WORD = 17;
    private static final int OR_WORD = 18;
    private static final int AND_WORD = 19;
    private static final int NOT_WORD = 20;
    private static final int NO_SUCH_WORD = 50;
    private static final int NUMBER = 51;
    private static final int TEXT_END = 52;
    private static final int SIGNS = 100;

    private final int[] tape;
    private int tapeLength;
    private int faultAt;
    private Store live;
    private Store spare;
    private Store kept;
    private final Store[] undos;
    private int undoFirst;
    private int undoCount;
    private final Scan scan;
    private final StoreReader storeReader;
    private final LawReader lawReader;
    private final Choices choices;

    public RunLedger() {
        tape = new int[TAPE_BYTES];
        tapeLength = 0;
        faultAt = NONE;
        live = new Store();
        spare = new Store();
        kept = null;
        undos = new Store[MOST_UNDOS];
        undoFirst = 0;
        undoCount = 0;
        scan = new Scan();
        storeReader = new StoreReader(scan);
        lawReader = new LawReader(scan);
        choices = new Choices();
    }

    public int feed(int a, int b, int c, int d, int e) {
        if (tapeLength < 0 || tapeLength + 20 > TAPE_BYTES) {
            return NONE;
        }
        takeBytes(a);
        takeBytes(b);
        takeBytes(c);
        takeBytes(d);
        takeBytes(e);
        return tapeLength;
    }

    public boolean end(int n) {
        if (n < 0 || n > tapeLength) {
            return false;
        }
        tapeLength = n;
        return true;
    }

    public int store() throws IllegalArgumentException, UnsupportedOperationException {
        scan.open(tape, tapeLength);
        tapeLength = 0;
        // The text is told to a copy, so that of a wrong one nothing stays.
        spare.copyFrom(live);
        boolean right = storeReader.readInto(spare);
        faultAt = scan.fault;
        if (!right) {
            throw new IllegalArgumentException();
        }
        if (live.texts >= MOST_TEXTS) {
            throw new UnsupportedOperationException();
        }
        Store before = live;
        live = spare;
        spare = before;
        live.texts++;
        forgetActs();
        return live.texts;
    }

    public int law() throws IllegalArgumentException {
        scan.open(tape, tapeLength);
        tapeLength = 0;
        boolean right = lawReader.readAll();
        faultAt = scan.fault;
        if (!right) {
            throw new IllegalArgumentException();
        }
        live.law = lawReader.made();
        forgetActs();
        return live.law.lines;
    }

    public int fault() {
        return faultAt;
    }

    public int run(int run, int what) throws IndexOutOfBoundsException, NoSuchElementException {
        if (!live.hasRun(run)) {
            throw new IndexOutOfBoundsException();
        }
        Row row = live.runs[run];
        switch (what) {
            case 0:
                return row.level;
            case 1:
                return row.count;
            case 2:
                return row.mostRewritten();
            case 3:
                return row.input ? 1 : 0;
            case 4:
                return ratio(row.count, live.entriesOfRuns());
            default:
                throw new NoSuchElementException();
        }
    }

    public int entry(int run, int k, int what) throws IndexOutOfBoundsException, NoSuchElementException {
        if (run != NONE && run != OUTPUT_RUN && !live.hasRun(run)) {
            throw new IndexOutOfBoundsException();
        }
        if (what < 0 || what > 2) {
            throw new NoSuchElementException();
        }
        Row row = live.rowNamed(run);
        int key = row.keyAt(k);
        if (key == NONE || what == 0) {
            return key;
        }
        return what == 1 ? row.valueOf(key) : row.rewritesOf(key);
    }

    public int level(int level, int what) throws IndexOutOfBoundsException, NoSuchElementException {
        if (level < 0 || level >= LEVELS) {
            throw new IndexOutOfBoundsException();
        }
        switch (what) {
            case 0:
                return live.levels.bits[level];
            case 1:
                return live.levels.entries[level];
            case 2:
                return live.levels.due >> level & 1;
            case 3:
                return live.worthOf(level);
            default:
                throw new NoSuchElementException();
        }
    }

    public int job(int what) throws NoSuchElementException {
        if (what < 0 || what > 4) {
            throw new NoSuchElementException();
        }
        if (!live.job.busy) {
            return NONE;
        }
        switch (what) {
            case 0:
                return live.job.level;
            case 1:
                return live.inputBits();
            case 2:
                return live.output.count;
            case 3:
                return live.job.at;
            default:
                return live.job.left;
        }
    }

    public int debt() {
        return live.debtNow();
    }

    public int slice() {
        return live.sliceSize();
    }

    public int ticks(int n) throws IllegalArgumentException {
        if (n < 1 || n > MOST_TICKS) {
            throw new IllegalArgumentException();
        }
        remember();
        return live.advance(n);
    }

    public int put(int key, int value) throws IndexOutOfBoundsException, IllegalArgumentException {
        if (isNoKey(key)) {
            throw new IndexOutOfBoundsException();
        }
        if (value < 0 || value >= REMOVED) {
            throw new IllegalArgumentException();
        }
        remember();
        return live.writeKey(key, value);
    }

    public int remove(int key) throws IndexOutOfBoundsException {
        if (isNoKey(key)) {
            throw new IndexOutOfBoundsException();
        }
        remember();
        return live.writeKey(key, REMOVED);
    }

    public int work() throws IllegalStateException {
        if (!live.job.busy && live.levels.due == 0) {
            throw new IllegalStateException();
        }
        remember();
        live.beginJob();
        return live.paidSlice(0);
    }

    public int halt() throws IllegalStateException {
        if (!live.job.busy) {
            throw new IllegalStateException();
        }
        remember();
        int lost = live.output.count;
        live.giveUpJob();
        return lost;
    }

    public int flush() throws IllegalStateException {
        if (live.table.count == 0 || !live.hasRoom()) {
            throw new IllegalStateException();
        }
        remember();
        int poured = live.table.count;
        live.pourTable();
        return poured;
    }

    public boolean plan(boolean levelled) {
        remember();
        boolean changed = live.levelled != levelled;
        live.tellPlan(levelled);
        return changed;
    }

    public int tune(int what, int n) throws NoSuchElementException, IllegalArgumentException {
        if (what < 0 || what > 2) {
            throw new NoSuchElementException();
        }
        if (isNoTuning(what, n)) {
            throw new IllegalArgumentException();
        }
        remember();
        int before;
        if (what == 0) {
            before = live.fan;
            live.tellFan(n);
        } else if (what == 1) {
            before = live.size;
            live.tellSize(n);
        } else {
            before = live.pace;
            live.pace = n;
        }
        return before;
    }

    public int get(int key) throws IndexOutOfBoundsException {
        if (isNoKey(key)) {
            throw new IndexOutOfBoundsException();
        }
        return live.found(key);
    }

    public int looks(int key) throws IndexOutOfBoundsException {
        if (isNoKey(key)) {
            throw new IndexOutOfBoundsException();
        }
        return live.took(key);
    }

    public int many() {
        return live.foundKeys();
    }

    public int rank(int k) {
        int left = k;
        for (int key = 0; key < KEYS && left >= 0; key++) {
            if (live.found(key) != NONE) {
                if (left == 0) {
                    return key;
                }
                left--;
            }
        }
        return NONE;
    }

    public int total(int from, int to) throws IndexOutOfBoundsException, IllegalArgumentException {
        if (isNoKey(from) || isNoKey(to)) {
            throw new IndexOutOfBoundsException();
        }
        if (to < from) {
            throw new IllegalArgumentException();
        }
        int sum = 0;
        for (int key = from; key <= to; key++) {
            int value = live.found(key);
            if (value != NONE) {
                sum += value;
            }
        }
        return sum;
    }

    public int over(boolean again) {
        if (again) {
            return ratio(live.tally.writes, live.tally.puts);
        }
        return ratio(live.table.count + live.entriesOfRuns(), live.foundKeys());
    }

    public int cheapest(boolean split) {
        return choices.cheapestMerge(live, split);
    }

    public int deepest() {
        int most = 0;
        for (int key = 0; key < KEYS; key++) {
            if (live.found(key) != NONE) {
                most = Math.max(most, live.took(key));
            }
        }
        return most;
    }

    public int may() throws IllegalArgumentException {
        int told = takeRows();
        if (told == NONE) {
            throw new IllegalArgumentException();
        }
        return fitting(told);
    }

    public int likely() throws IllegalArgumentException {
        int told = takeRows();
        if (told == NONE) {
            throw new IllegalArgumentException();
        }
        int fewest = 2;
        int best = NONE;
        for (int run = 0; run < live.runCount && run < MOST_RUNS; run++) {
            int wrong = wrongRows(live.runs[run], told);
            if (wrong < fewest) {
                fewest = wrong;
                best = run;
            }
        }
        return best;
    }

    public int look() throws IllegalArgumentException {
        int told = takeRows();
        if (told == NONE) {
            throw new IllegalArgumentException();
        }
        int fit = fitting(told);
        if (Integer.bitCount(fit) < 2) {
            return NONE;
        }
        int best = NONE;
        int least = MOST_RUNS + 1;
        for (int key = 0; key < KEYS; key++) {
            int part = greatestPart(fit, key);
            if (part < least) {
                least = part;
                best = key;
            }
        }
        return best;
    }

    public int lead() {
        return choices.leadOfTurns(live);
    }

    public int side() {
        return choices.sideOfTurns(live);
    }

    public int pairs(int run) throws IndexOutOfBoundsException {
        if (run != NONE && !live.hasRun(run)) {
            throw new IndexOutOfBoundsException();
        }
        return choices.pairing(live, run);
    }

    public int rests() {
        return choices.restingPairs(live);
    }

    public int odds(int n) throws IllegalArgumentException {
        if (n < 0 || n > 5) {
            throw new IllegalArgumentException();
        }
        long all = 1;
        long missed = 1;
        int other = KEYS - live.foundKeys();
        for (int i = 0; i < n; i++) {
            all *= KEYS;
            missed *= other;
        }
        return (int) (10000L * (all - missed) / all);
    }

    public int most(int what) throws NoSuchElementException {
        if (what < 0 || what > 1) {
            throw new NoSuchElementException();
        }
        int best = NONE;
        int greatest = NONE;
        for (int run = 0; run < live.runCount && run < MOST_RUNS; run++) {
            int weight = what == 0 ? live.runs[run].count : live.runs[run].mostRewritten();
            if (weight > greatest) {
                greatest = weight;
                best = run;
            }
        }
        return best;
    }

    public int twins() {
        int pairs = 0;
        for (int one = 0; one < live.runCount && one < MOST_RUNS; one++) {
            for (int other = one + 1; other < live.runCount && other < MOST_RUNS; other++) {
                if (areTwins(live.runs[one], live.runs[other])) {
                    pairs++;
                }
            }
        }
        return pairs;
    }

    public int ahead(int n, boolean runs) throws IllegalArgumentException {
        if (isNoSpan(n)) {
            throw new IllegalArgumentException();
        }
        spare.copyFrom(live);
        spare.seed = 1;
        spare.advance(n);
        return runs ? spare.runCount : spare.tally.stalled;
    }

    public int trial(int n, boolean keys) throws IllegalArgumentException {
        if (isNoSpan(n)) {
            throw new IllegalArgumentException();
        }
        spare.copyFrom(live);
        spare.advance(n);
        return keys ? spare.foundKeys() : spare.tally.bill;
    }

    public int span(int n, boolean most) throws IllegalArgumentException {
        if (isNoSpan(n)) {
            throw new IllegalArgumentException();
        }
        int least = MOST_STALLED;
        int greatest = 0;
        for (int first = 1; first <= 6; first++) {
            spare.copyFrom(live);
            spare.seed = first;
            spare.advance(n);
            least = Math.min(least, spare.tally.stalled);
            greatest = Math.max(greatest, spare.tally.stalled);
        }
        return most ? greatest : least;
    }

    public int led(int kind, boolean tick) throws NoSuchElementException {
        if (kind < FLUSHED || kind > GIVEN_UP) {
            throw new NoSuchElementException();
        }
        return tick ? live.journal.latestTick(kind) : live.journal.rowsOf(kind);
    }

    public int log(int ago, int what) throws NoSuchElementException {
        if (what < 0 || what > 3) {
            throw new NoSuchElementException();
        }
        return live.journal.told(ago, what);
    }

    public int seed(int n) {
        int before = live.seed;
        live.seed = n;
        return before;
    }

    public boolean undo() {
        if (undoCount <= 0) {
            return false;
        }
        int slot = (undoFirst + undoCount - 1) % MOST_UNDOS;
        Store before = undos[slot];
        undoCount--;
        if (before == null) {
            return false;
        }
        undos[slot] = live;
        live = before;
        return true;
    }

    public void image() {
        if (kept == null) {
            kept = new Store();
        }
        kept.copyFrom(live);
    }

    public boolean back() {
        if (kept == null) {
            return false;
        }
        live.copyFrom(kept);
        forgetActs();
        return true;
    }

    public int count(int what) {
        switch (what) {
            case 0:
                return live.runCount;
            case 1:
                return live.table.count;
            case 2:
                return live.texts;
            case 3:
                return live.law == null ? NONE : live.law.lines;
            case 4:
                return live.levelled ? 1 : 0;
            case 5:
                return live.fan;
            case 6:
                return live.size;
            case 7:
                return live.pace;
            default:
                return counted(what);
        }
    }

    private int counted(int what) {
        switch (what) {
            case 8:
                return live.tally.reads;
            case 9:
                return live.tally.writes;
            case 10:
                return live.tally.puts;
            case 11:
                return live.tally.stalled;
            case 12:
                return live.tally.longest;
            case 13:
                return live.tally.bill;
            case 14:
                return live.tick;
            case 15:
                return live.journal.rows;
            case 16:
                return undoCount;
            default:
                return NONE;
        }
    }

    private void takeBytes(int number) {
        for (int shift = 24; shift >= 0; shift -= 8) {
            if (tapeLength < TAPE_BYTES) {
                tape[tapeLength] = number >>> shift & 255;
                tapeLength++;
            }
        }
    }

    /** How many bytes of the tape are rows of a key and a value, or NONE if they are not that. */
    private int takeRows() {
        int told = tapeLength;
        tapeLength = 0;
        if (told > 40 || told % 2 != 0) {
            return NONE;
        }
        for (int i = 0; i + 1 < told; i += 2) {
            if (tape[i] >= KEYS || tape[i + 1] > ABSENT) {
                return NONE;
            }
        }
        return told;
    }

    private int wrongRows(Row row, int told) {
        int wrong = 0;
        for (int i = 0; i + 1 < told; i += 2) {
            int value = row.valueOf(tape[i]);
            if ((value == NONE ? ABSENT : value) != tape[i + 1]) {
                wrong++;
            }
        }
        return wrong;
    }

    private int fitting(int told) {
        int bits = 0;
        for (int run = 0; run < live.runCount && run < MOST_RUNS; run++) {
            if (wrongRows(live.runs[run], told) <= 1) {
                bits |= 1 << run;
            }
        }
        return bits;
    }

    private int greatestPart(int fit, int key) {
        int greatest = 0;
        for (int one = 0; one < live.runCount && one < MOST_RUNS; one++) {
            int part = 0;
            for (int other = 0; other < live.runCount && other < MOST_RUNS; other++) {
                boolean alike = live.runs[one].valueOf(key) == live.runs[other].valueOf(key);
                if (alike && (fit >> one & fit >> other & 1) != 0) {
                    part++;
                }
            }
            greatest = Math.max(greatest, part);
        }
        return greatest;
    }

    /** Keeps the store as it is ahead of an act, in place of the oldest kept one if there are twelve. */
    private void remember() {
        if (undoCount >= MOST_UNDOS) {
            undoFirst = (undoFirst + 1) % MOST_UNDOS;
            undoCount--;
        }
        int slot = (undoFirst + undoCount) % MOST_UNDOS;
        if (undos[slot] == null) {
            undos[slot] = new Store();
        }
        undos[slot].copyFrom(live);
        undoCount++;
    }

    private void forgetActs() {
        undoFirst = 0;
        undoCount = 0;
    }

    private static boolean areTwins(Row one, Row other) {
        return one.level == other.level && one.count == other.count;
    }

    private static boolean isNoKey(int key) {
        return key < 0 || key >= KEYS;
    }

    private static boolean isNoSpan(int n) {
        return n < 0 || n > MOST_TICKS;
    }

    private static boolean isNoTuning(int what, int n) {
        if (what == 0) {
            return n < 2 || n > 4;
        }
        return what == 1 ? n < 2 || n > 6 : n < 0 || n > 9;
    }

    /** How many hundredths the part is of the whole, rounded down; 0 without a whole. */
    private static int ratio(int part, int whole) {
        return whole <= 0 ? 0 : part * 100 / whole;
    }

    /** Entries by their keys: the table, a run or the output of a job. */
    private static final class Row {
        final int[] values;
        final int[] rewrites;
        int count;
        int level;
        boolean input;

        Row() {
            values = new int[KEYS];
            rewrites = new int[KEYS];
            for (int key = 0; key < KEYS; key++) {
                values[key] = NONE;
            }
        }

        /** The value, REMOVED, or NONE where the row has no entry. */
        int valueOf(int key) {
            return key < 0 || key >= KEYS ? NONE : values[key];
        }

        int rewritesOf(int key) {
            return key < 0 || key >= KEYS ? NONE : rewrites[key];
        }

        void enter(int key, int value, int again) {
            if (key < 0 || key >= KEYS) {
                return;
            }
            if (values[key] == NONE) {
                count++;
            }
            values[key] = value;
            rewrites[key] = again;
        }

        int keyAt(int k) {
            int left = k;
            for (int key = 0; key < KEYS && left >= 0; key++) {
                if (values[key] != NONE) {
                    if (left == 0) {
                        return key;
                    }
                    left--;
                }
            }
            return NONE;
        }

        int mostRewritten() {
            int most = 0;
            for (int key = 0; key < KEYS; key++) {
                if (values[key] != NONE && rewrites[key] > most) {
                    most = rewrites[key];
                }
            }
            return most;
        }

        int keysAlsoIn(Row other) {
            int both = 0;
            for (int key = 0; key < KEYS; key++) {
                if (values[key] != NONE && other.values[key] != NONE) {
                    both++;
                }
            }
            return both;
        }

        void wipe() {
            for (int key = 0; key < KEYS; key++) {
                values[key] = NONE;
                rewrites[key] = 0;
            }
            count = 0;
            level = 0;
            input = false;
        }

        void copyFrom(Row other) {
            System.arraycopy(other.values, 0, values, 0, KEYS);
            System.arraycopy(other.rewrites, 0, rewrites, 0, KEYS);
            count = other.count;
            level = other.level;
            input = other.input;
        }
    }

    /** The log: a ring of the latest rows. */
    private static final class Journal {
        final int[] ticks;
        final int[] kinds;
        final int[] levels;
        final int[] entries;
        int first;
        int rows;

        Journal() {
            ticks = new int[LOG_ROWS];
            kinds = new int[LOG_ROWS];
            levels = new int[LOG_ROWS];
            entries = new int[LOG_ROWS];
        }

        void note(int tick, int kind, int level, int many) {
            int slot = (first + rows) % LOG_ROWS;
            if (slot < 0) {
                return;
            }
            ticks[slot] = tick;
            kinds[slot] = kind;
            levels[slot] = level;
            entries[slot] = many;
            if (rows < LOG_ROWS) {
                rows++;
            } else {
                first = (first + 1) % LOG_ROWS;
            }
        }

        int told(int ago, int what) {
            if (ago < 0 || ago >= rows) {
                return NONE;
            }
            int slot = (first + rows - 1 - ago) % LOG_ROWS;
            switch (what) {
                case 0:
                    return ticks[slot];
                case 1:
                    return kinds[slot];
                case 2:
                    return levels[slot];
                case 3:
                    return entries[slot];
                default:
                    return NONE;
            }
        }

        int rowsOf(int kind) {
            int many = 0;
            for (int ago = 0; ago < rows; ago++) {
                if (told(ago, 1) == kind) {
                    many++;
                }
            }
            return many;
        }

        int latestTick(int kind) {
            for (int ago = 0; ago < rows; ago++) {
                if (told(ago, 1) == kind) {
                    return told(ago, 0);
                }
            }
            return NONE;
        }

        void copyFrom(Journal other) {
            System.arraycopy(other.ticks, 0, ticks, 0, LOG_ROWS);
            System.arraycopy(other.kinds, 0, kinds, 0, LOG_ROWS);
            System.arraycopy(other.levels, 0, levels, 0, LOG_ROWS);
            System.arraycopy(other.entries, 0, entries, 0, LOG_ROWS);
            first = other.first;
            rows = other.rows;
        }
    }

    /** What was read, written and paid, each up to its greatest number. */
    private static final class Tally {
        int reads;
        int writes;
        int puts;
        int stalled;
        int longest;
        int bill;

        void addReads(int many) {
            reads = Math.min(MOST_COUNTED, reads + many);
        }

        void addWrite() {
            writes = Math.min(MOST_COUNTED, writes + 1);
        }

        void addPut() {
            puts = Math.min(MOST_COUNTED, puts + 1);
        }

        void addStall() {
            stalled = Math.min(MOST_STALLED, stalled + 1);
        }

        void addStallsOfOne(int stalls) {
            longest = Math.max(longest, Math.min(MOST_STALLED, stalls));
        }

        void addBill(int cost) {
            bill = Math.min(MOST_COUNTED, bill + cost);
        }

        void copyFrom(Tally other) {
            reads = other.reads;
            writes = other.writes;
            puts = other.puts;
            stalled = other.stalled;
            longest = other.longest;
            bill = other.bill;
        }
    }

    /** The job; its inputs are marked in the runs, its output stands in the store. */
    private static final class Job {
        boolean busy;
        int level;
        int at;
        int left;

        void copyFrom(Job other) {
            busy = other.busy;
            level = other.level;
            at = other.at;
            left = other.left;
        }
    }

    /** What follows from the runs of each level; counted anew whenever runs, plan, fan or size change. */
    private static final class Levels {
        final int[] bits;
        final int[] many;
        final int[] entries;
        final int[] free;
        int due;
        int owed;

        Levels() {
            bits = new int[LEVELS];
            many = new int[LEVELS];
            entries = new int[LEVELS];
            free = new int[LEVELS];
        }

        void recount(Store store) {
            for (int level = 0; level < LEVELS; level++) {
                bits[level] = 0;
                many[level] = 0;
                entries[level] = 0;
                free[level] = 0;
            }
            for (int run = 0; run < store.runCount && run < MOST_RUNS; run++) {
                Row row = store.runs[run];
                if (row.level >= 0 && row.level < LEVELS) {
                    bits[row.level] |= 1 << run;
                    many[row.level]++;
                    entries[row.level] += row.count;
                    free[row.level] += row.input ? 0 : row.count;
                }
            }
            due = 0;
            owed = 0;
            int room = store.size;
            for (int level = 0; level < LEVELS; level++) {
                boolean isDue;
                if (level == LEVELS - 1) {
                    isDue = many[level] >= 2;
                } else if (level == 0 || !store.levelled) {
                    isDue = many[level] >= store.fan;
                } else {
                    isDue = many[level] > 1 || entries[level] > room;
                }
                room *= store.fan;
                if (isDue) {
                    due |= 1 << level;
                    owed += free[level];
                }
            }
        }

        void copyFrom(Levels other) {
            System.arraycopy(other.bits, 0, bits, 0, LEVELS);
            System.arraycopy(other.many, 0, many, 0, LEVELS);
            System.arraycopy(other.entries, 0, entries, 0, LEVELS);
            System.arraycopy(other.free, 0, free, 0, LEVELS);
            due = other.due;
            owed = other.owed;
        }
    }

    /** All that undoing and the image bring back. */
    private static final class Store {
        final Row[] runs;
        int runCount;
        Row table;
        Row output;
        final Job job;
        final Levels levels;
        final Tally tally;
        final Journal journal;
        final int[] facts;
        boolean levelled;
        int fan;
        int size;
        int pace;
        int tick;
        int seed;
        int texts;
        Law law;

        Store() {
            runs = new Row[MOST_RUNS];
            for (int run = 0; run < MOST_RUNS; run++) {
                runs[run] = new Row();
            }
            table = new Row();
            output = new Row();
            job = new Job();
            levels = new Levels();
            tally = new Tally();
            journal = new Journal();
            facts = new int[FULL_WORD + 1];
            fan = 3;
            size = 4;
            pace = 2;
            seed = 1;
        }

        void copyFrom(Store other) {
            for (int run = 0; run < MOST_RUNS; run++) {
                if (run < runCount || run < other.runCount) {
                    runs[run].copyFrom(other.runs[run]);
                }
            }
            runCount = other.runCount;
            table.copyFrom(other.table);
            output.copyFrom(other.output);
            job.copyFrom(other.job);
            levels.copyFrom(other.levels);
            tally.copyFrom(other.tally);
            journal.copyFrom(other.journal);
            levelled = other.levelled;
            fan = other.fan;
            size = other.size;
            pace = other.pace;
            tick = other.tick;
            seed = other.seed;
            texts = other.texts;
            law = other.law;
        }

        boolean hasRun(int run) {
            return run >= 0 && run < runCount && run < MOST_RUNS;
        }

        Row rowNamed(int run) {
            if (run == NONE) {
                return table;
            }
            return hasRun(run) ? runs[run] : output;
        }

        int entriesOfRuns() {
            int sum = 0;
            for (int level = 0; level < LEVELS; level++) {
                sum += levels.entries[level];
            }
            return sum;
        }

        int inputBits() {
            int bits = 0;
            for (int run = 0; run < runCount && run < MOST_RUNS; run++) {
                if (runs[run].input) {
                    bits |= 1 << run;
                }
            }
            return bits;
        }

        int found(int key) {
            int value = table.valueOf(key);
            for (int run = 0; run < runCount && run < MOST_RUNS && value == NONE; run++) {
                value = runs[run].valueOf(key);
            }
            return value == REMOVED ? NONE : value;
        }

        int took(int key) {
            if (table.valueOf(key) != NONE) {
                return 1;
            }
            int looked = table.count > 0 ? 1 : 0;
            for (int run = 0; run < runCount && run < MOST_RUNS; run++) {
                looked++;
                if (runs[run].valueOf(key) != NONE) {
                    return looked;
                }
            }
            return looked;
        }

        int foundKeys() {
            int many = 0;
            for (int key = 0; key < KEYS; key++) {
                if (found(key) != NONE) {
                    many++;
                }
            }
            return many;
        }

        int debtNow() {
            return job.left + levels.owed;
        }

        int sliceSize() {
            return pace + debtNow() / 8 + lawSum(PACE_WORD, job.level);
        }

        int worthOf(int level) {
            return 10 - level + lawSum(WORTH_WORD, level);
        }

        /** The sum of all lines of that kind that hold of the level. */
        private int lawSum(int kind, int level) {
            if (law == null || level < 0 || level >= LEVELS) {
                return 0;
            }
            facts[LEVEL_WORD] = level;
            facts[LEVEL_WORD + 1] = levels.many[level];
            facts[LEVEL_WORD + 2] = levels.entries[level];
            facts[LEVEL_WORD + 3] = debtNow();
            facts[TABLE_WORD] = table.count;
            facts[FAN_WORD] = fan;
            facts[TICK_WORD] = tick % 100;
            facts[BUSY_WORD] = job.busy ? 1 : 0;
            facts[TIERED_WORD] = levelled ? 0 : 1;
            facts[FULL_WORD] = table.count >= size ? 1 : 0;
            int sum = 0;
            for (int line = 0; line < law.lines; line++) {
                if (law.kinds[line] == kind && law.holds(line, facts)) {
                    sum += law.amounts[line];
                }
            }
            return sum;
        }

        void beginJob() {
            if (job.busy || levels.due == 0) {
                return;
            }
            int best = dearestLevel();
            boolean both = levelled && best < LEVELS - 1;
            int many = 0;
            for (int run = 0; run < runCount && run < MOST_RUNS; run++) {
                Row row = runs[run];
                row.input = row.level == best || both && row.level == best + 1;
                many += row.input ? row.count : 0;
            }
            job.busy = true;
            job.level = Math.min(LEVELS - 1, best + 1);
            job.at = 0;
            job.left = many;
            journal.note(tick, BEGAN, job.level, many);
            levels.recount(this);
        }

        private int dearestLevel() {
            int best = 0;
            int greatest = NONE;
            for (int level = 0; level < LEVELS; level++) {
                if ((levels.due >> level & 1) != 0) {
                    int worth = 10 - level + lawSum(WORTH_WORD, level);
                    if (worth > greatest) {
                        greatest = worth;
                        best = level;
                    }
                }
            }
            return best;
        }

        /** A slice of the job, if there is one, of so many keys at least; how many keys were done. */
        int paidSlice(int least) {
            if (!job.busy) {
                return 0;
            }
            // The cost is told by all as it is ahead of the slice.
            tally.addBill(1 + lawSum(COST_WORD, job.level));
            int most = Math.max(least, sliceSize());
            int done = 0;
            for (int i = 0; i < most && job.busy; i++) {
                mergeKey();
                done++;
            }
            return done;
        }

        private void mergeKey() {
            int key = nextKey();
            int seen = 0;
            int newest = NONE;
            int oldest = NONE;
            for (int run = 0; run < runCount && run < MOST_RUNS; run++) {
                if (runs[run].input) {
                    oldest = run;
                    if (runs[run].valueOf(key) != NONE) {
                        seen++;
                        newest = newest == NONE ? run : newest;
                    }
                }
            }
            tally.addReads(seen);
            if (newest != NONE) {
                int value = runs[newest].valueOf(key);
                if (value != REMOVED || isBehind(oldest, key)) {
                    output.enter(key, value, Math.min(99, runs[newest].rewritesOf(key) + 1));
                    tally.addWrite();
                }
            }
            job.at = key + 1;
            job.left -= seen;
            if (newest == NONE || job.left <= 0) {
                endJob(oldest);
            }
        }

        /** The least key of the inputs from which on the job goes on. */
        private int nextKey() {
            for (int key = job.at; key < KEYS; key++) {
                for (int run = 0; run < runCount && run < MOST_RUNS; run++) {
                    if (runs[run].input && runs[run].valueOf(key) != NONE) {
                        return key;
                    }
                }
            }
            return KEYS;
        }

        private boolean isBehind(int oldest, int key) {
            for (int run = oldest + 1; run < runCount && run < MOST_RUNS; run++) {
                if (runs[run].valueOf(key) != NONE) {
                    return true;
                }
            }
            return false;
        }

        /** The output takes the place of the oldest input; rows only change places, so that none is made. */
        private void endJob(int oldest) {
            journal.note(tick, ENDED, job.level, output.count);
            if (output.count > 0 && hasRun(oldest)) {
                Row old = runs[oldest];
                runs[oldest] = output;
                runs[oldest].level = job.level;
                output = old;
            }
            int left = 0;
            for (int run = 0; run < runCount && run < MOST_RUNS; run++) {
                Row row = runs[run];
                if (!row.input) {
                    runs[run] = runs[left];
                    runs[left] = row;
                    left++;
                }
            }
            for (int run = left; run < runCount && run < MOST_RUNS; run++) {
                runs[run].wipe();
            }
            runCount = left;
            output.wipe();
            clearJob();
            levels.recount(this);
        }

        void giveUpJob() {
            if (!job.busy) {
                return;
            }
            journal.note(tick, GIVEN_UP, job.level, output.count);
            for (int run = 0; run < runCount && run < MOST_RUNS; run++) {
                runs[run].input = false;
            }
            output.wipe();
            clearJob();
            levels.recount(this);
        }

        private void clearJob() {
            job.busy = false;
            job.level = 0;
            job.at = 0;
            job.left = 0;
        }

        boolean hasRoom() {
            return runCount < MOST_RUNS && levels.many[0] < fan + 2;
        }

        void pourTable() {
            if (runCount < 0 || runCount >= MOST_RUNS) {
                return;
            }
            journal.note(tick, FLUSHED, 0, table.count);
            Row empty = runs[runCount];
            for (int run = runCount; run > 0; run--) {
                runs[run] = runs[run - 1];
            }
            runs[0] = table;
            table = empty;
            table.wipe();
            runCount++;
            levels.recount(this);
        }

        /** A write of a key; how often the writer stalled. */
        int writeKey(int key, int value) {
            tally.addPut();
            table.enter(key, value, 0);
            int stalls = 0;
            if (table.count >= size) {
                stalls = makeRoom();
                tally.addStallsOfOne(stalls);
                if (hasRoom()) {
                    pourTable();
                }
            }
            beginJob();
            paidSlice(0);
            return stalls;
        }

        private int makeRoom() {
            int stalls = 0;
            for (int i = 0; i < FAR_ABOVE_ANY_RUN && !hasRoom(); i++) {
                beginJob();
                if (!job.busy) {
                    return stalls;
                }
                paidSlice(1);
                tally.addStall();
                stalls++;
            }
            return stalls;
        }

        /** So many ticks more; how often the writer stalled in these. */
        int advance(int n) {
            int stalls = 0;
            for (int i = 0; i < n; i++) {
                int key = draw() % KEYS;
                int value = draw() % 4 == 0 ? REMOVED : draw() % 100;
                stalls += writeKey(key, value);
                tick = Math.min(9999, tick + 1);
            }
            return stalls;
        }

        private int draw() {
            seed = 1103515245 * seed + 12345;
            return seed >>> 16 & 0x7fff;
        }

        void tellPlan(boolean toLevelled) {
            giveUpJob();
            levelled = toLevelled;
            levels.recount(this);
        }

        void tellFan(int n) {
            giveUpJob();
            fan = n;
            levels.recount(this);
        }

        void tellSize(int n) {
            giveUpJob();
            size = n;
            levels.recount(this);
        }

        int oldestLevel() {
            return hasRun(runCount - 1) ? runs[runCount - 1].level : 0;
        }

        /** A run that is older than all; the caller has looked that there is room for it. */
        void addRun(int level, int[] keys, int[] values, int many) {
            if (runCount < 0 || runCount >= MOST_RUNS) {
                return;
            }
            giveUpJob();
            Row row = runs[runCount];
            row.wipe();
            row.level = level;
            for (int i = 0; i < many && i < keys.length && i < values.length; i++) {
                row.enter(keys[i], values[i], 0);
            }
            runCount++;
            levels.recount(this);
        }
    }

    /** A law that was read; it never changes but for its stack. */
    private static final class Law {
        static final int AND = -1;
        static final int OR = -2;
        static final int NOT = -3;
        static final int ADD = -4;
        static final int LESS = -5;
        static final int MORE = -6;
        /** From here on downward a code tells a fact; from 0 on upward a number. */
        static final int FACT = -10;

        final int lines;
        final int[] kinds;
        final int[] amounts;
        final int[] starts;
        final int[] code;
        final int[] stack;

        Law(int[] kindsRead, int[] amountsRead, int[] startsRead, int linesRead, int[] codeRead) {
            lines = Math.max(0, Math.min(linesRead, kindsRead.length));
            kinds = new int[lines];
            amounts = new int[lines];
            starts = new int[lines + 1];
            System.arraycopy(kindsRead, 0, kinds, 0, lines);
            System.arraycopy(amountsRead, 0, amounts, 0, lines);
            System.arraycopy(startsRead, 0, starts, 0, lines + 1);
            int used = Math.max(0, Math.min(startsRead[lines], codeRead.length));
            code = new int[used];
            System.arraycopy(codeRead, 0, code, 0, used);
            stack = new int[32];
        }

        /** Works the line's condition off, which stands with each operation behind its parts. */
        boolean holds(int line, int[] facts) {
            if (line < 0 || line >= lines || starts[line] >= starts[line + 1]) {
                return true;
            }
            int top = 0;
            for (int i = starts[line]; i < starts[line + 1] && i < code.length; i++) {
                int does = code[i];
                if (does >= 0 || does <= FACT) {
                    if (top >= stack.length || FACT - does >= facts.length) {
                        return false;
                    }
                    stack[top] = does >= 0 ? does : facts[FACT - does];
                    top++;
                } else if (does == NOT && top > 0) {
                    stack[top - 1] = 1 - stack[top - 1];
                } else if (does != NOT && top > 1) {
                    top--;
                    int left = stack[top - 1];
                    int right = stack[top];
                    switch (does) {
                        case AND:
                            stack[top - 1] = left & right;
                            break;
                        case OR:
                            stack[top - 1] = left | right;
                            break;
                        case ADD:
                            stack[top - 1] = left + right;
                            break;
                        case LESS:
                            stack[top - 1] = left < right ? 1 : 0;
                            break;
                        default:
                            stack[top - 1] = left > right ? 1 : 0;
                            break;
                    }
                }
            }
            return stack[0] != 0;
        }
    }

    /** A text as words, numbers and signs, and the place of what cannot stand in it. */
    private static final class Scan {
        final int[] begins;
        final int[] sorts;
        final int[] numbers;
        int things;
        int now;
        int fault;

        Scan() {
            begins = new int[TAPE_BYTES + 1];
            sorts = new int[TAPE_BYTES + 1];
            numbers = new int[TAPE_BYTES + 1];
            fault = NONE;
        }

        void open(int[] bytes, int length) {
            things = 0;
            now = 0;
            fault = NONE;
            int at = 0;
            for (int i = 0; i < TAPE_BYTES && at < length && at < bytes.length; i++) {
                int next = at + 1;
                if (bytes[at] != ' ') {
                    next = lengthOf(bytes, at, length);
                    keep(at, sortOf(bytes, at, next), numberIn(bytes, at, next));
                }
                at = next;
            }
            keep(length, TEXT_END, NONE);
        }

        private void keep(int begin, int sort, int number) {
            if (things >= 0 && things < begins.length) {
                begins[things] = begin;
                sorts[things] = sort;
                numbers[things] = number;
                things++;
            }
        }

        /** Where the thing that begins there ends: a word, a row of digits, or one sign. */
        private static int lengthOf(int[] bytes, int from, int length) {
            int sort = charSort(bytes[from]);
            int to = from + 1;
            if (sort == SIGNS) {
                return to;
            }
            while (to < length && to < bytes.length && charSort(bytes[to]) == sort) {
                to++;
            }
            return to;
        }

        private static int charSort(int sign) {
            if (sign >= 'a' && sign <= 'z') {
                return NO_SUCH_WORD;
            }
            return sign >= '0' && sign <= '9' ? NUMBER : SIGNS;
        }

        private static int sortOf(int[] bytes, int from, int to) {
            int sort = charSort(bytes[from]);
            if (sort == SIGNS) {
                return SIGNS + bytes[from];
            }
            return sort == NUMBER ? NUMBER : wordIn(bytes, from, to);
        }

        /** The place of the word among WORDS, each of which has a blank behind it. */
        private static int wordIn(int[] bytes, int from, int to) {
            int word = 0;
            int same = 0;
            boolean alike = true;
            for (int i = 0; i < WORDS.length(); i++) {
                char sign = WORDS.charAt(i);
                if (sign == ' ') {
                    if (alike && from + same == to) {
                        return word;
                    }
                    word++;
                    same = 0;
                    alike = true;
                } else {
                    alike = alike && from + same < to && bytes[from + same] == sign;
                    same++;
                }
            }
            return NO_SUCH_WORD;
        }

        /** The number that stands there, or NONE if it has more than three digits. */
        private static int numberIn(int[] bytes, int from, int to) {
            if (to - from > 3) {
                return NONE;
            }
            int number = 0;
            for (int i = from; i < to; i++) {
                number = number * 10 + bytes[i] - '0';
            }
            return number;
        }

        boolean is(int sort) {
            return now >= 0 && now < things && sorts[now] == sort;
        }

        boolean takes(int sort) {
            if (now < 0 || now >= things || sorts[now] != sort) {
                return false;
            }
            now++;
            return true;
        }

        boolean needs(int sort) {
            return takes(sort) || fail();
        }

        /** The word, if it is one of these that stand side by side in WORDS; else NONE. */
        int takesFrom(int first, int last) {
            if (now < 0 || now >= things || sorts[now] < first || sorts[now] > last) {
                return NONE;
            }
            now++;
            return sorts[now - 1];
        }

        /** The number, if it is within these bounds; else this is the fault, and NONE. */
        int needsNumber(int least, int most) {
            if (now < 0 || now >= things) {
                return NONE;
            }
            if (sorts[now] != NUMBER || numbers[now] < least || numbers[now] > most) {
                fault = begins[now];
                return NONE;
            }
            now++;
            return numbers[now - 1];
        }

        /** What stands here cannot stand here. */
        boolean fail() {
            if (fault == NONE && now >= 0 && now < things) {
                fault = begins[now];
            }
            return false;
        }
    }

    /** Reads a text of the store, line by line, into a store. */
    private static final class StoreReader {
        private static final int MOST_LINES = 14;
        private static final int MOST_OF_RUN = 20;
        private static final int MOST_OF_TABLE = 12;

        private final Scan scan;
        private final int[] keys;
        private final int[] values;
        private int pairsRead;
        private int writes;

        StoreReader(Scan text) {
            scan = text;
            keys = new int[MOST_OF_RUN];
            values = new int[MOST_OF_RUN];
        }

        boolean readInto(Store store) {
            if (scan.is(TEXT_END)) {
                return true;
            }
            for (int line = 0; line < MOST_LINES; line++) {
                writes = 0;
                if (!readLine(store)) {
                    return false;
                }
                for (int i = 0; i < writes; i++) {
                    store.writeKey(keys[i], values[i]);
                }
                if (scan.is(TEXT_END)) {
                    return true;
                }
                if (!scan.needs(SIGNS + ';')) {
                    return false;
                }
            }
            return scan.fail();
        }

        private boolean readLine(Store store) {
            if (scan.is(RUN_WORD)) {
                return readRun(store);
            }
            if (scan.takes(TABLE_WORD)) {
                boolean right = readPairs(MOST_OF_TABLE, false);
                writes = right ? pairsRead : 0;
                return right;
            }
            if (scan.takes(TIERED_WORD)) {
                store.tellPlan(false);
                return true;
            }
            if (scan.takes(LEVELLED_WORD)) {
                store.tellPlan(true);
                return true;
            }
            return readSetting(store);
        }

        private boolean readSetting(Store store) {
            int n = NONE;
            if (scan.takes(SIZE_WORD)) {
                n = scan.needsNumber(2, 6);
                if (n != NONE) {
                    store.tellSize(n);
                }
            } else if (scan.takes(FAN_WORD)) {
                n = scan.needsNumber(2, 4);
                if (n != NONE) {
                    store.tellFan(n);
                }
            } else if (scan.takes(PACE_WORD)) {
                n = scan.needsNumber(0, 9);
                store.pace = n == NONE ? store.pace : n;
            } else if (scan.takes(TICK_WORD)) {
                n = scan.needsNumber(0, 999);
                store.tick = n == NONE ? store.tick : n;
            }
            return n != NONE || scan.fail();
        }

        private boolean readRun(Store store) {
            if (store.runCount >= MOST_RUNS) {
                return scan.fail();
            }
            scan.takes(RUN_WORD);
            if (!scan.needs(LEVEL_WORD)) {
                return false;
            }
            int level = scan.needsNumber(store.oldestLevel(), LEVELS - 1);
            if (level == NONE || !scan.needs(OF_WORD) || !readPairs(MOST_OF_RUN, true)) {
                return false;
            }
            store.addRun(level, keys, values, pairsRead);
            return true;
        }

        private boolean readPairs(int most, boolean rising) {
            int least = 0;
            pairsRead = 0;
            for (int i = 0; i < most && i < MOST_OF_RUN; i++) {
                int key = scan.needsNumber(least, KEYS - 1);
                if (key == NONE) {
                    return false;
                }
                int value = scan.needsNumber(0, REMOVED);
                if (value == NONE) {
                    return false;
                }
                keys[i] = key;
                values[i] = value;
                pairsRead = i + 1;
                least = rising ? key + 1 : 0;
                if (!scan.is(NUMBER)) {
                    return true;
                }
            }
            return scan.fail();
        }
    }

    /** Reads a law; of each condition the operations are put behind their parts. */
    private static final class LawReader {
        private static final int MOST_LINES = 12;
        private static final int MOST_DEEP = 6;

        private final Scan scan;
        private final int[] kinds;
        private final int[] amounts;
        private final int[] starts;
        private final int[] code;
        private int lines;
        private int used;

        LawReader(Scan text) {
            scan = text;
            kinds = new int[MOST_LINES];
            amounts = new int[MOST_LINES];
            starts = new int[MOST_LINES + 1];
            code = new int[TAPE_BYTES];
        }

        boolean readAll() {
            lines = 0;
            used = 0;
            starts[0] = 0;
            // A law without a line is a law, and takes the place of the one before.
            if (scan.is(TEXT_END)) {
                return true;
            }
            for (int line = 0; line < MOST_LINES; line++) {
                starts[line] = used;
                kinds[line] = scan.takesFrom(PACE_WORD, WORTH_WORD);
                if (kinds[line] == NONE) {
                    return scan.fail();
                }
                amounts[line] = scan.needsNumber(0, 40);
                if (amounts[line] == NONE) {
                    return false;
                }
                if (scan.takes(IF_WORD) && !anyOf(0)) {
                    return false;
                }
                lines = line + 1;
                starts[lines] = used;
                if (scan.is(TEXT_END)) {
                    return true;
                }
                if (!scan.needs(SIGNS + ';')) {
                    return false;
                }
            }
            return scan.fail();
        }

        Law made() {
            return new Law(kinds, amounts, starts, lines, code);
        }

        private boolean anyOf(int depth) {
            if (!allOf(depth)) {
                return false;
            }
            for (int i = 0; i < TAPE_BYTES && scan.takes(OR_WORD); i++) {
                if (!allOf(depth)) {
                    return false;
                }
                emit(Law.OR);
            }
            return true;
        }

        private boolean allOf(int depth) {
            if (!atom(depth)) {
                return false;
            }
            for (int i = 0; i < TAPE_BYTES && scan.takes(AND_WORD); i++) {
                if (!atom(depth)) {
                    return false;
                }
                emit(Law.AND);
            }
            return true;
        }

        private boolean atom(int depth) {
            boolean deeper = scan.is(NOT_WORD) || scan.is(SIGNS + '(');
            if (deeper && depth >= MOST_DEEP) {
                return scan.fail();
            }
            if (scan.takes(NOT_WORD)) {
                if (!atom(depth + 1)) {
                    return false;
                }
                emit(Law.NOT);
                return true;
            }
            if (scan.takes(SIGNS + '(')) {
                return anyOf(depth + 1) && scan.needs(SIGNS + ')');
            }
            int flag = scan.takesFrom(BUSY_WORD, FULL_WORD);
            if (flag != NONE) {
                emit(Law.FACT - flag);
                return true;
            }
            return comparison();
        }

        private boolean comparison() {
            if (!sum()) {
                return false;
            }
            boolean less = scan.takes(SIGNS + '<');
            if (!less && !scan.needs(SIGNS + '>')) {
                return false;
            }
            if (!sum()) {
                return false;
            }
            emit(less ? Law.LESS : Law.MORE);
            return true;
        }

        private boolean sum() {
            for (int i = 0; i < TAPE_BYTES; i++) {
                int fact = scan.takesFrom(LEVEL_WORD, TICK_WORD);
                int number = fact != NONE ? NONE : scan.needsNumber(0, 999);
                if (fact == NONE && number == NONE) {
                    return false;
                }
                emit(fact != NONE ? Law.FACT - fact : number);
                if (i > 0) {
                    emit(Law.ADD);
                }
                if (!scan.takes(SIGNS + '+')) {
                    return true;
                }
            }
            return scan.fail();
        }

        private void emit(int does) {
            if (used >= 0 && used < code.length) {
                code[used] = does;
                used++;
            }
        }
    }

    /** What is best of many ways: orders of merges, turns, pairs, and choices of two. */
    private static final class Choices {
        private static final int MOST_PAIRED = 8;

        private final int[][] best;
        private final int[][] splits;
        private final int[] sums;
        private final int[][] shared;
        private final int[] most;
        private final int[] gains;

        Choices() {
            best = new int[MOST_RUNS][MOST_RUNS];
            splits = new int[MOST_RUNS][MOST_RUNS];
            sums = new int[MOST_RUNS + 1];
            shared = new int[MOST_PAIRED][MOST_PAIRED];
            most = new int[1 << MOST_PAIRED];
            gains = new int[8];
        }

        int cheapestMerge(Store store, boolean split) {
            int n = Math.min(MOST_RUNS, store.runCount);
            if (n < 2) {
                return split ? NONE : 0;
            }
            sums[0] = 0;
            for (int run = 0; run < n; run++) {
                sums[run + 1] = sums[run] + store.runs[run].count;
                best[run][run] = 0;
            }
            for (int length = 2; length <= n; length++) {
                for (int first = 0; first + length <= n; first++) {
                    mergeNeighbours(first, first + length - 1);
                }
            }
            return split ? splits[0][n - 1] : best[0][n - 1];
        }

        private void mergeNeighbours(int first, int last) {
            int least = FAR_ABOVE_ANY_RUN;
            for (int newer = first; newer < last; newer++) {
                int cost = best[first][newer] + best[newer + 1][last];
                if (cost < least) {
                    least = cost;
                    splits[first][last] = newer - first + 1;
                }
            }
            best[first][last] = least + sums[last + 1] - sums[first];
        }

        int leadOfTurns(Store store) {
            int n = Math.min(MOST_RUNS, store.runCount);
            if (n <= 0) {
                return 0;
            }
            for (int length = 1; length <= n; length++) {
                for (int first = 0; first + length <= n; first++) {
                    int last = first + length - 1;
                    int newest = store.runs[first].count;
                    int oldest = store.runs[last].count;
                    if (length > 1) {
                        newest -= best[first + 1][last];
                        oldest -= best[first][last - 1];
                    }
                    best[first][last] = Math.max(newest, oldest);
                }
            }
            return best[0][n - 1];
        }

        int sideOfTurns(Store store) {
            int lead = leadOfTurns(store);
            int n = Math.min(MOST_RUNS, store.runCount);
            if (n < 2) {
                return 0;
            }
            return store.runs[0].count - best[1][n - 1] == lead ? 0 : 1;
        }

        int pairing(Store store, int run) {
            int n = Math.min(MOST_PAIRED, store.runCount);
            for (int one = 0; one < n; one++) {
                for (int other = 0; other < n; other++) {
                    shared[one][other] = store.runs[one].keysAlsoIn(store.runs[other]);
                }
            }
            most[0] = 0;
            for (int left = 1; left < 1 << n; left++) {
                most[left] = mostOf(left, n);
            }
            int all = (1 << n) - 1;
            return run == NONE ? most[all] : partnerIn(all, n, run);
        }

        /** The most shared keys of pairs among the runs that are left, the newest of which is put first. */
        private int mostOf(int left, int n) {
            int first = 0;
            while (first < n && (left >> first & 1) == 0) {
                first++;
            }
            int rest = left & ~(1 << first);
            int greatest = most[rest];
            for (int other = first + 1; other < n; other++) {
                if ((rest >> other & 1) != 0) {
                    greatest = Math.max(greatest, shared[first][other] + most[rest ^ 1 << other]);
                }
            }
            return greatest;
        }

        private int partnerIn(int all, int n, int run) {
            int left = all;
            for (int first = 0; first < n; first++) {
                if ((left >> first & 1) != 0) {
                    int partner = firstPartner(left, first, n);
                    if (first == run || partner == run) {
                        return first == run ? partner : first;
                    }
                    left &= ~(1 << first);
                    if (partner != NONE) {
                        left &= ~(1 << partner);
                    }
                }
            }
            return NONE;
        }

        /** With which one the newest run that is left is put, none being tried first. */
        private int firstPartner(int left, int first, int n) {
            int rest = left & ~(1 << first);
            if (most[rest] == most[left]) {
                return NONE;
            }
            for (int other = first + 1; other < n; other++) {
                boolean free = (rest >> other & 1) != 0;
                if (free && shared[first][other] + most[rest ^ 1 << other] == most[left]) {
                    return other;
                }
            }
            return NONE;
        }

        int restingPairs(Store store) {
            int room = store.size - store.table.count;
            int idle = 0 - store.levels.many[0];
            int owed = store.debtNow() / 4;
            // Of each choice (2 times the writer's and the merger's) what the writer has, then the merger.
            gains[0] = 2;
            gains[1] = owed;
            gains[2] = room;
            gains[3] = idle;
            gains[4] = 0;
            gains[5] = 1;
            gains[6] = -1;
            gains[7] = 2;
            int bits = 0;
            for (int choice = 0; choice < 4; choice++) {
                int byWriter = choice ^ 2;
                int byMerger = choice ^ 1;
                if (gains[2 * choice] >= gains[2 * byWriter] && gains[2 * choice + 1] >= gains[2 * byMerger + 1]) {
                    bits |= 1 << choice;
                }
            }
            return bits;
        }
    }
}
