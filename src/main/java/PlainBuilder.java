import java.util.Arrays;

/**
 * The plain side of a build house: nothing is kept from call to call but the row of all events.
 * The other rows here are scratch room, made once and filled anew by each call that needs them,
 * so that calls make no objects.
 */
public final class PlainBuilder {
    public static final int NONE = -1;

    private static final int NO_SUCH_KIND = -1;
    private static final int NOT_ALLOWED = -2;
    private static final int FULL = -4;

    private static final int MOST_EVENTS = 200;
    private static final int KINDS = 16;
    private static final int KEYS = 64;
    private static final int TARGETS = 16;
    private static final int PATHS = 8;
    private static final int NAMES = 6;
    private static final int LAST_VERSION = 9;
    private static final int JOBS = 16;
    private static final int TESTS = 16;
    private static final int TEXTS = 2;
    private static final int BYTES = 256;

    private static final int NUMBER = 0;
    private static final int SUM = 1;
    private static final int PRODUCT = 2;
    private static final int QUOTIENT = 3;
    private static final int EITHER = 4;
    private static final int TARGET = 5;
    private static final int WRITE = 6;
    private static final int COPY = 7;
    private static final int ADD = 8;
    private static final int TAKE = 9;
    private static final int VERSION = 10;
    private static final int DEMAND = 11;
    private static final int NEED = 12;
    private static final int RESULT = 13;
    private static final int TEST = 14;
    private static final int TEXT = 15;

    private static final int JOB_STATE = 0;
    private static final int JOB_NEEDS = 1;

    private static final int UNEQUAL = 0;
    private static final int EQUAL = 1;
    private static final int TEST_FAILS = 2;

    private final Row row;
    private final Keys keys;
    private final Rings rings;
    private final Targets targets;
    private final Choices choices;
    private final Jobs jobs;
    private final Texts texts;

    public PlainBuilder() {
        row = new Row();
        keys = new Keys();
        rings = new Rings();
        targets = new Targets();
        choices = new Choices();
        jobs = new Jobs();
        texts = new Texts();
    }

    public int event(int kind, long a, long b, long c) {
        if (!isBelow(kind, KINDS)) {
            return NO_SUCH_KIND;
        }
        if (!row.allows(kind, a, b, c)) {
            return NOT_ALLOWED;
        }
        return row.add(kind, a, b, c);
    }

    public int events() {
        return row.size();
    }

    public long value(int key) throws IllegalStateException {
        keys.read(row);
        keys.startCount();
        long answer = keys.work(row, key);
        if (keys.hasFailed()) {
            throw new IllegalStateException("the key fails");
        }
        return answer;
    }

    public long output(int target, int path) throws IllegalStateException {
        keys.read(row);
        targets.startCount();
        if (!isBelow(path, PATHS) || !targets.run(row, keys, target)) {
            throw new IllegalStateException("the target fails, or there is no such path");
        }
        return targets.pathOf(target, path);
    }

    public int solve() {
        return choices.findFirst(row);
    }

    public int chosen(int name) {
        choices.findFirst(row);
        return choices.versionOf(name);
    }

    public int job(int i, int what) {
        if (!jobs.isThere(row, i)) {
            return NONE;
        }
        if (what == JOB_STATE) {
            jobs.read(row);
            return jobs.stateOf(row, i);
        }
        return what == JOB_NEEDS ? jobs.countNeeds(row, i) : NONE;
    }

    public int ring(int i) {
        keys.read(row);
        rings.read(row, keys);
        return rings.keyAt(i);
    }

    public int test(int t) {
        int teller = row.latest(TEST, t);
        if (teller == NONE) {
            return NONE;
        }
        keys.read(row);
        keys.startCount();
        long left = keys.work(row, row.b(teller));
        if (keys.hasFailed()) {
            return TEST_FAILS;
        }
        long right = keys.work(row, row.c(teller));
        if (keys.hasFailed()) {
            return TEST_FAILS;
        }
        return left == right ? EQUAL : UNEQUAL;
    }

    public byte delta(int i) throws ArrayIndexOutOfBoundsException {
        texts.read(row);
        if (texts.areSame() || !isBelow(i, texts.newLength())) {
            throw new ArrayIndexOutOfBoundsException("the delta has no such byte");
        }
        return texts.newByte(i);
    }

    private static boolean isBelow(long number, int bound) {
        return number >= 0 && number < bound;
    }

    private static boolean isFromTo(long number, int least, int most) {
        return number >= least && number <= most;
    }

    /** All events, in their order. */
    private static final class Row {
        private final int[] kinds;
        private final long[] as;
        private final long[] bs;
        private final long[] cs;
        private int size;

        Row() {
            kinds = new int[MOST_EVENTS];
            as = new long[MOST_EVENTS];
            bs = new long[MOST_EVENTS];
            cs = new long[MOST_EVENTS];
            size = 0;
        }

        int size() {
            return size;
        }

        /** The new event's number, or FULL. */
        int add(int kind, long a, long b, long c) {
            if (!isBelow(size, MOST_EVENTS)) {
                return FULL;
            }
            kinds[size] = kind;
            as[size] = a;
            bs[size] = b;
            cs[size] = c;
            size++;
            return size - 1;
        }

        int kind(int event) {
            return isBelow(event, size) ? kinds[event] : NONE;
        }

        int a(int event) {
            return isBelow(event, size) ? (int) as[event] : NONE;
        }

        int b(int event) {
            return isBelow(event, size) ? (int) bs[event] : NONE;
        }

        int c(int event) {
            return isBelow(event, size) ? (int) cs[event] : NONE;
        }

        /** What b is where it may be any number, not only a small one. */
        long number(int event) {
            return isBelow(event, size) ? bs[event] : 0;
        }

        /** The latest event of a kind with this a; NONE if there is none. */
        int latest(int kind, long a) {
            for (int event = size - 1; event >= 0; event--) {
                if (kinds[event] == kind && as[event] == a) {
                    return event;
                }
            }
            return NONE;
        }

        boolean allows(int kind, long a, long b, long c) {
            switch (kind) {
                case NUMBER:
                    return isBelow(a, KEYS);
                case SUM:
                case PRODUCT:
                case QUOTIENT:
                case EITHER:
                    return isBelow(a, KEYS) && isBelow(b, KEYS) && isBelow(c, KEYS);
                case TARGET:
                    return isBelow(a, TARGETS);
                case WRITE:
                case COPY:
                case ADD:
                case TAKE:
                    return latest(TARGET, a) != NONE && isBelow(b, PATHS)
                            && isBelow(c, boundOfStep(kind));
                case VERSION:
                    return isBelow(a, NAMES) && isFromTo(b, 1, LAST_VERSION);
                case DEMAND:
                    return mayDemand(a, b) && isBelow(c / 100, NAMES);
                case NEED:
                    return isBelow(a, JOBS) && isBelow(b, JOBS) && isFromTo(c, 1, 3);
                case RESULT:
                    return isBelow(a, JOBS) && isFromTo(b, 1, 2);
                case TEST:
                    return isBelow(a, TESTS) && isBelow(b, KEYS) && isBelow(c, KEYS);
                case TEXT:
                    return isBelow(a, TEXTS) && isBelow(b, BYTES);
                default:
                    return false;
            }
        }

        /** A step's c is a key, a path or a target, by its kind. */
        private static int boundOfStep(int kind) {
            if (kind == WRITE) {
                return KEYS;
            }
            return kind == TAKE ? TARGETS : PATHS;
        }

        /** The house stands as version 0 of name 0, and of no other name. */
        private static boolean mayDemand(long name, long version) {
            if (version == 0) {
                return name == 0;
            }
            return isBelow(name, NAMES) && isFromTo(version, 1, LAST_VERSION);
        }
    }

    /**
     * Works keys out by recursion. That one key is never open twice keeps it to 65 levels of two
     * methods each.
     */
    private static final class Keys {
        private static final int MOST_WORKED = 300;

        private final int[] tellers;
        private final boolean[] open;
        private int worked;
        private boolean failed;

        Keys() {
            tellers = new int[KEYS];
            open = new boolean[KEYS];
            worked = 0;
            failed = false;
        }

        /** Finds the event that tells each key: a scan for every key worked out would be slow. */
        void read(Row row) {
            Arrays.fill(tellers, NONE);
            for (int event = 0; event < row.size(); event++) {
                int key = row.a(event);
                if (isFromTo(row.kind(event), NUMBER, EITHER) && isBelow(key, KEYS)) {
                    tellers[key] = event;
                }
            }
        }

        int tellerOf(int key) {
            return isBelow(key, KEYS) ? tellers[key] : NONE;
        }

        void startCount() {
            worked = 0;
            failed = false;
        }

        /** Whether the key that was worked out last failed. */
        boolean hasFailed() {
            return failed;
        }

        /** Past the limit every key fails, so that EITHER's second key can't save it any more. */
        long work(Row row, int key) {
            worked++;
            int teller = tellerOf(key);
            if (worked > MOST_WORKED || teller == NONE || !isBelow(key, KEYS) || open[key]) {
                return fail();
            }
            if (row.kind(teller) == NUMBER) {
                failed = false;
                return row.number(teller);
            }
            open[key] = true;
            long answer = combine(row, teller);
            open[key] = false;
            return answer;
        }

        private long combine(Row row, int teller) {
            int kind = row.kind(teller);
            long left = work(row, row.b(teller));
            if (kind == EITHER) {
                return failed ? work(row, row.c(teller)) : left;
            }
            if (failed) {
                return 0;
            }
            long right = work(row, row.c(teller));
            if (failed) {
                return 0;
            }
            if (kind == QUOTIENT) {
                return right == 0 ? fail() : left / right;
            }
            return kind == SUM ? left + right : left * right;
        }

        private long fail() {
            failed = true;
            return 0;
        }
    }

    /** Finds the keys from which one comes back to them. */
    private static final class Rings {
        private final long[] reached;

        Rings() {
            reached = new long[KEYS];
        }

        /** Bit j of reached[i] tells that one comes from key i to key j. */
        void read(Row row, Keys keys) {
            for (int key = 0; key < KEYS; key++) {
                reached[key] = namedBy(row, keys.tellerOf(key));
            }
            for (int middle = 0; middle < KEYS; middle++) {
                for (int key = 0; key < KEYS; key++) {
                    if (comesTo(key, middle)) {
                        reached[key] |= reached[middle];
                    }
                }
            }
        }

        int keyAt(int i) {
            int before = 0;
            for (int key = 0; key < KEYS; key++) {
                if (comesTo(key, key)) {
                    if (before == i) {
                        return key;
                    }
                    before++;
                }
            }
            return NONE;
        }

        private boolean comesTo(int from, int to) {
            return isBelow(from, KEYS) && (reached[from] >>> to & 1L) != 0;
        }

        private static long namedBy(Row row, int teller) {
            if (!isFromTo(row.kind(teller), SUM, EITHER)) {
                return 0;
            }
            return 1L << row.b(teller) | 1L << row.c(teller);
        }
    }

    /**
     * Runs targets by recursion. That one target never runs inside itself keeps it to 17 levels of
     * three methods each, and lets every target have one tree of its own.
     */
    private static final class Targets {
        private static final int MOST_RUNS = 40;

        private final long[] trees;
        private final boolean[] running;
        private int runs;

        Targets() {
            trees = new long[TARGETS * PATHS];
            running = new boolean[TARGETS];
            runs = 0;
        }

        void startCount() {
            runs = 0;
        }

        /** Whether the target ran without failing. */
        boolean run(Row row, Keys keys, int target) {
            runs++;
            int teller = row.latest(TARGET, target);
            if (runs > MOST_RUNS || teller == NONE || !isBelow(target, TARGETS)
                    || running[target]) {
                return false;
            }
            running[target] = true;
            clearTree(target);
            boolean fine = true;
            for (int event = teller + 1; fine && event < row.size(); event++) {
                fine = row.a(event) != target || doStep(row, keys, target, event);
            }
            running[target] = false;
            return fine;
        }

        long pathOf(int target, int path) {
            return isSpot(target, path) ? trees[target * PATHS + path] : 0;
        }

        /** Events that are no steps do nothing, and do it without failing. */
        private boolean doStep(Row row, Keys keys, int target, int event) {
            int path = row.b(event);
            switch (row.kind(event)) {
                case WRITE:
                    return write(row, keys, target, event);
                case COPY:
                    setPath(target, path, pathOf(target, row.c(event)));
                    return true;
                case ADD:
                    setPath(target, path, pathOf(target, path) + pathOf(target, row.c(event)));
                    return true;
                case TAKE:
                    return take(row, keys, target, event);
                default:
                    return true;
            }
        }

        private boolean write(Row row, Keys keys, int target, int event) {
            keys.startCount();
            long answer = keys.work(row, row.c(event));
            if (keys.hasFailed()) {
                return false;
            }
            setPath(target, row.b(event), answer);
            return true;
        }

        private boolean take(Row row, Keys keys, int target, int event) {
            int other = row.c(event);
            if (!run(row, keys, other)) {
                return false;
            }
            setPath(target, row.b(event), pathOf(other, row.b(event)));
            return true;
        }

        private void clearTree(int target) {
            for (int path = 0; path < PATHS; path++) {
                setPath(target, path, 0);
            }
        }

        private void setPath(int target, int path, long content) {
            if (isSpot(target, path)) {
                trees[target * PATHS + path] = content;
            }
        }

        private static boolean isSpot(int target, int path) {
            return isBelow(target, TARGETS) && isBelow(path, PATHS);
        }
    }

    /** Tries choices one after the other. Version 0 of a name stands for none. */
    private static final class Choices {
        private static final int FOUND = 1;
        private static final int NOT_FOUND = 0;
        private static final int NOT_TRIED = -1;
        private static final int MOST_CHOICES = 5000;
        private static final int VERSIONS = LAST_VERSION + 1;
        private static final int ANY = (1 << VERSIONS) - 1;
        private static final int HOUSE = 0;

        private final int[] versions;
        private final int[] allowed;
        private final int[] choice;

        Choices() {
            versions = new int[NAMES];
            allowed = new int[NAMES * VERSIONS * NAMES];
            choice = new int[NAMES];
        }

        /** Leaves the first good choice in its row, or none for every name. */
        int findFirst(Row row) {
            Arrays.fill(choice, 0);
            readVersions(row);
            int count = countChoices();
            if (count > MOST_CHOICES) {
                return NOT_TRIED;
            }
            readDemands(row);
            for (int tried = 0; tried < count; tried++) {
                if (isGood()) {
                    return FOUND;
                }
                goOn();
            }
            return NOT_FOUND;
        }

        int versionOf(int name) {
            return isBelow(name, NAMES) ? choice[name] : 0;
        }

        /** Bit v of versions[n] tells that name n has version v. */
        private void readVersions(Row row) {
            Arrays.fill(versions, 0);
            for (int event = 0; event < row.size(); event++) {
                int name = row.a(event);
                if (row.kind(event) == VERSION && isBelow(name, NAMES)) {
                    versions[name] |= 1 << row.b(event);
                }
            }
        }

        private int countChoices() {
            int count = 1;
            for (int name = 0; name < NAMES; name++) {
                count *= Integer.bitCount(versions[name]) + 1;
            }
            return count;
        }

        /** Bit v at an asker's spot for a name tells that its demands let the name have v. */
        private void readDemands(Row row) {
            Arrays.fill(allowed, ANY);
            for (int event = 0; event < row.size(); event++) {
                if (row.kind(event) == DEMAND) {
                    int range = row.c(event);
                    int spot = spotOf(askerOf(row.a(event), row.b(event)), range / 100);
                    if (isBelow(spot, allowed.length)) {
                        allowed[spot] &= versionsFromTo(range / 10 % 10, range % 10);
                    }
                }
            }
        }

        /** None is never in a range, even if that begins at 0. */
        private static int versionsFromTo(int least, int most) {
            int bits = 0;
            for (int version = 1; version <= LAST_VERSION; version++) {
                if (isFromTo(version, least, most)) {
                    bits |= 1 << version;
                }
            }
            return bits;
        }

        private boolean isGood() {
            boolean good = isContent(HOUSE);
            for (int name = 0; good && name < NAMES; name++) {
                good = choice[name] == 0 || isContent(askerOf(name, choice[name]));
            }
            return good;
        }

        private boolean isContent(int asker) {
            for (int name = 0; name < NAMES; name++) {
                int spot = spotOf(asker, name);
                if (isBelow(spot, allowed.length) && (allowed[spot] >> choice[name] & 1) == 0) {
                    return false;
                }
            }
            return true;
        }

        /** To the next choice; from the last one back to none for every name. */
        private void goOn() {
            boolean carry = true;
            for (int name = NAMES - 1; carry && name >= 0; name--) {
                choice[name] = versionBehind(name, choice[name]);
                carry = choice[name] == 0;
            }
        }

        private int versionBehind(int name, int version) {
            int greatest = version == 0 ? LAST_VERSION : version - 1;
            for (int next = greatest; next >= 1; next--) {
                if (isBelow(name, NAMES) && (versions[name] >> next & 1) != 0) {
                    return next;
                }
            }
            return 0;
        }

        /** The house asks as version 0 of name 0, just as its demands tell it. */
        private static int askerOf(int name, int version) {
            return name * VERSIONS + version;
        }

        private static int spotOf(int asker, int name) {
            return asker * NAMES + name;
        }
    }

    /** Tells the states of jobs. */
    private static final class Jobs {
        private static final int WAITS = 0;
        private static final int READY = 1;
        private static final int SKIPPED = 2;
        private static final int PASSED = 3;
        private static final int FAILED = 4;
        private static final int NO_RESULT = 0;
        private static final int GOOD_RESULT = 1;

        private final int[] results;
        private final boolean[] skipped;

        Jobs() {
            results = new int[JOBS];
            skipped = new boolean[JOBS];
        }

        boolean isThere(Row row, int job) {
            for (int event = 0; event < row.size(); event++) {
                int kind = row.kind(event);
                boolean asA = (kind == NEED || kind == RESULT) && row.a(event) == job;
                if (asA || kind == NEED && row.b(event) == job) {
                    return true;
                }
            }
            return false;
        }

        int countNeeds(Row row, int job) {
            int count = 0;
            for (int event = 0; event < row.size(); event++) {
                if (isNeedOf(row, event, job)) {
                    count++;
                }
            }
            return count;
        }

        void read(Row row) {
            for (int job = 0; job < JOBS; job++) {
                results[job] = NO_RESULT;
                skipped[job] = false;
            }
            for (int event = 0; event < row.size(); event++) {
                int job = row.a(event);
                if (row.kind(event) == RESULT && isBelow(job, JOBS)) {
                    results[job] = row.b(event);
                }
            }
            // A round that skips none is the last that matters, so as many as jobs are enough.
            for (int round = 0; round < JOBS; round++) {
                skipOnce(row);
            }
        }

        int stateOf(Row row, int job) {
            int result = resultOf(job);
            if (result != NO_RESULT) {
                return result == GOOD_RESULT ? PASSED : FAILED;
            }
            if (isSkipped(job)) {
                return SKIPPED;
            }
            for (int event = 0; event < row.size(); event++) {
                if (isNeedOf(row, event, job) && resultOf(row.b(event)) == NO_RESULT) {
                    return WAITS;
                }
            }
            return READY;
        }

        /** Starting from none, this skips just the jobs that must be, so rings of needs wait. */
        private void skipOnce(Row row) {
            for (int event = 0; event < row.size(); event++) {
                int job = row.a(event);
                if (row.kind(event) == NEED && resultOf(job) == NO_RESULT && isBelow(job, JOBS)
                        && isBarred(row.b(event), row.c(event))) {
                    skipped[job] = true;
                }
            }
        }

        /** The bits of "either" are those of the two results, so a mask tells which will do. */
        private boolean isBarred(int needed, int fitting) {
            int result = resultOf(needed);
            return isSkipped(needed) || result != NO_RESULT && (result & fitting) == 0;
        }

        private static boolean isNeedOf(Row row, int event, int job) {
            return row.kind(event) == NEED && row.a(event) == job;
        }

        private int resultOf(int job) {
            return isBelow(job, JOBS) ? results[job] : NO_RESULT;
        }

        private boolean isSkipped(int job) {
            return isBelow(job, JOBS) && skipped[job];
        }
    }

    /** Lays the two texts out. */
    private static final class Texts {
        private static final int NEW = 1;

        private final byte[] oldText;
        private final byte[] newText;
        private int oldLength;
        private int newLength;

        Texts() {
            oldText = new byte[MOST_EVENTS];
            newText = new byte[MOST_EVENTS];
            oldLength = 0;
            newLength = 0;
        }

        void read(Row row) {
            oldLength = 0;
            newLength = 0;
            for (int event = 0; event < row.size(); event++) {
                if (row.kind(event) == TEXT) {
                    append(row.a(event), (byte) row.b(event));
                }
            }
        }

        int newLength() {
            return newLength;
        }

        byte newByte(int i) {
            return isBelow(i, newLength) && i < newText.length ? newText[i] : 0;
        }

        boolean areSame() {
            boolean same = oldLength == newLength;
            for (int i = 0; same && i < newLength && i < MOST_EVENTS; i++) {
                same = oldText[i] == newText[i];
            }
            return same;
        }

        private void append(int text, byte more) {
            if (text == NEW && isBelow(newLength, MOST_EVENTS)) {
                newText[newLength] = more;
                newLength++;
            } else if (text != NEW && isBelow(oldLength, MOST_EVENTS)) {
                oldText[oldLength] = more;
                oldLength++;
            }
        }
    }
}
