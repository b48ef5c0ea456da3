import java.util.function.Function;

/**
 * The bounds of promises 1 to 3 and of the numbers in Terms. Each method stands for the words of
 * the document above it; a number is tried on both sides of each bound that it has.
 */
public final class EventBoundsTest {
    private static final long LEAST = Long.MIN_VALUE;
    private static final long MOST = Long.MAX_VALUE;
    /** What a KIND doesn't name. */
    private static final long[] ANY = {LEAST, MOST};
    private static final long[] KEYS = {0, 63};
    private static final long[] SIXTEEN = {0, 15};
    private static final long[] PATHS = {0, 7};
    /** Targets 4 to 9 are told in every house here. */
    private static final long[] TOLD = {4, 9};
    private static final long[] NAMES = {0, 5};
    private static final long[] VERSIONS = {1, 9};

    private static final Due due = new Due();

    public static void main(String[] args) {
        noEvents();
        numberedFrom0();
        noSuchKind();
        keysToldAndNamed();
        targetsToldAgain();
        stepsOfTargets();
        stepsOnlyOfToldTargets();
        takesFromUntoldTargets();
        versionsOfNames();
        demandsOfTheHouse();
        demandedNames();
        needsOfJobs();
        resultsOfJobs();
        testsOfKeys();
        bytesOfTexts();
        theFirstOfThese();
        fullForEveryKind();
        fullByEveryKind();
        lastOf512Calls();
        due.end("EventBoundsTest");
    }

    private static Told house() {
        Told told = new Told();
        for (int target = 4; target <= 9; target++) {
            told.target(target);
        }
        return told;
    }

    /** One event to a fresh house, which has six. */
    private static void tell(int kind, long a, long b, long c, boolean allowed) {
        PlainBuilder x = house().builder;
        String call = "event(" + kind + ", " + a + ", " + b + ", " + c + ")";
        due.is(call, x.event(kind, a, b, c), allowed ? 6 : -2);
        due.is("events() behind " + call, x.events(), allowed ? 7 : 6);
    }

    /** Sweeps each of the three numbers far past its bounds, the others standing at theirs. */
    private static void bounds(int kind, long[] a, long[] b, long[] c) {
        for (int end = 0; end <= 1; end++) {
            for (long n = -700; n <= 700; n++) {
                tell(kind, n, b[end], c[end], isIn(n, a));
                tell(kind, a[end], n, c[end], isIn(n, b));
                tell(kind, a[end], b[end], n, isIn(n, c));
            }
            for (long far : farFrom(a[end])) {
                tell(kind, far, b[end], c[end], isIn(far, a));
            }
            for (long far : farFrom(b[end])) {
                tell(kind, a[end], far, c[end], isIn(far, b));
            }
            for (long far : farFrom(c[end])) {
                tell(kind, a[end], b[end], far, isIn(far, c));
            }
        }
    }

    private static boolean isIn(long number, long[] bounds) {
        return number >= bounds[0] && number <= bounds[1];
    }

    /** Far numbers, some of which would be good ones if they were cut to fewer bits. */
    private static long[] farFrom(long good) {
        return new long[] {LEAST, LEAST + good, MOST, good + (1L << 32), good - (1L << 32),
            good + (1L << 16), good + (1L << 63), Integer.MIN_VALUE, Integer.MAX_VALUE};
    }

    /** "No EVENTS." */
    private static void noEvents() {
        due.is("events() of a new one", new PlainBuilder().events(), 0);
        PlainBuilder x = new PlainBuilder();
        due.is("solve()", x.solve(), 1);
        for (int i = -1; i <= 64; i++) {
            int place = i;
            due.fails("value", () -> x.value(place), IllegalStateException.class);
            due.is("ring", x.ring(i), -1);
            due.is("test", x.test(i), -1);
            due.is("job", x.job(i, 0), -1);
            due.is("chosen", x.chosen(i), 0);
            due.fails("output", () -> x.output(place, 0), IllegalStateException.class);
            due.fails("delta", () -> x.delta(place), ArrayIndexOutOfBoundsException.class);
        }
    }

    /** "EVENTS, at most 200, numbered from 0"; "How many EVENTS there are." */
    private static void numberedFrom0() {
        PlainBuilder x = new PlainBuilder();
        for (int number = 0; number < 200; number++) {
            due.is("events()", x.events(), number);
            due.is("event " + number, x.event(0, 5, number, 0), number);
        }
        for (int more = 0; more < 5; more++) {
            due.is("events(), full", x.events(), 200);
            due.is("one more", x.event(0, 5, 777, 0), -4);
        }
        due.answers("the 200th counts, no later one", () -> x.value(5), 199);
    }

    /** "- 1: there is no such KIND" */
    private static void noSuchKind() {
        PlainBuilder x = new PlainBuilder();
        int[] kinds = {-1, -2, -16, -32, 16, 17, 31, 32, 64, 256, 65536, Integer.MIN_VALUE,
            Integer.MIN_VALUE + 15, Integer.MAX_VALUE};
        for (int kind : kinds) {
            due.is("kind " + kind, x.event(kind, 0, 1, 1), -1);
        }
        due.is("events()", x.events(), 0);
        due.is("kind 0", x.event(0, 0, 1, 1), 0);
        due.is("kind 15", x.event(15, 0, 1, 1), 1);
    }

    /** "KEYS 0 .. 63: 0 KEY a is the NUMBER b. 1 it is KEYS b and c .. 4 .." */
    private static void keysToldAndNamed() {
        bounds(0, KEYS, ANY, ANY);
        for (int kind = 1; kind <= 4; kind++) {
            bounds(kind, KEYS, KEYS, KEYS);
        }
    }

    /** "TARGETS 0 .. 15 ..: 5 TARGET a is told, without STEPS (also if it was)." */
    private static void targetsToldAgain() {
        bounds(5, SIXTEEN, ANY, ANY);
        PlainBuilder x = new PlainBuilder();
        for (int i = 0; i < 32; i++) {
            due.is("target " + i / 2, x.event(5, i / 2, 0, 0), i);
        }
    }

    /** "6 TARGET a WRITES KEY c to PATH b; 7 .. 8 .. 9 it TAKES PATH b of TARGET c" */
    private static void stepsOfTargets() {
        bounds(6, TOLD, PATHS, KEYS);
        bounds(7, TOLD, PATHS, PATHS);
        bounds(8, TOLD, PATHS, PATHS);
        bounds(9, TOLD, PATHS, SIXTEEN);
    }

    /** "of 6 to 9 the TARGET a must be told" */
    private static void stepsOnlyOfToldTargets() {
        for (int kind = 6; kind <= 9; kind++) {
            for (int target = 0; target < 16; target++) {
                PlainBuilder x = new PlainBuilder();
                for (int other = 0; other < 16; other++) {
                    if (other != target) {
                        x.event(5, other, target, target);
                    }
                }
                x.event(0, target, target, target);
                String what = "kind " + kind + ", target " + target;
                due.is(what + ", all others told", x.event(kind, target, 0, 0), -2);
                due.is(what + ", refused", x.event(5, target + 16, 0, 0), -2);
                due.is(what + ", still untold", x.event(kind, target, 0, 0), -2);
                due.is(what + ", told", x.event(5, target, 0, 0), 16);
                due.is(what + ", a step", x.event(kind, target, 0, 0), 17);
                due.is(what + ", told again", x.event(5, target, 0, 0), 18);
                due.is(what + ", a step again", x.event(kind, target, 0, 0), 19);
            }
        }
    }

    /** "of 9 the TARGET c need not" be told */
    private static void takesFromUntoldTargets() {
        for (int other = 0; other < 16; other++) {
            PlainBuilder x = new PlainBuilder();
            x.event(5, 0, 0, 0);
            due.is("from target " + other, x.event(9, 0, 0, other), 1);
        }
    }

    /** "NAMES 0 .. 5 with VERSIONS 1 .. 9: 10 NAME a has VERSION b (again, too)." */
    private static void versionsOfNames() {
        bounds(10, NAMES, VERSIONS, ANY);
        PlainBuilder x = new PlainBuilder();
        due.is("a version", x.event(10, 2, 2, 0), 0);
        due.is("again", x.event(10, 2, 2, 0), 1);
    }

    /** "VERSION b of NAME a (b 0: the house; a is 0 then)" */
    private static void demandsOfTheHouse() {
        for (int a = -8; a <= 8; a++) {
            for (int b = -12; b <= 12; b++) {
                boolean house = a == 0 && b == 0;
                tell(11, a, b, 111, house || isIn(a, NAMES) && isIn(b, VERSIONS));
            }
        }
        for (long far : farFrom(0)) {
            tell(11, far, 0, 111, false);
            tell(11, 0, far, 111, far == 0);
            tell(11, far, 1, 111, false);
            tell(11, 1, far + 1, 111, isIn(far + 1, VERSIONS));
        }
    }

    /** "wants NAME c / 100 .. (c / 100 0 .. 5)", / being Java's, which cuts towards 0 */
    private static void demandedNames() {
        long[] allowed = {-99, 599};
        for (long c = -1300; c <= 1300; c++) {
            tell(11, 0, 0, c, isIn(c, allowed));
            tell(11, 5, 9, c, isIn(c, allowed));
        }
        for (long far : farFrom(0)) {
            tell(11, 0, 0, far, false);
        }
        tell(11, 0, 0, 100L << 32, false);
        tell(11, 0, 0, (100L << 32) + 99, false);
    }

    /** "JOBS 0 .. 15: 12 JOB a NEEDS JOB b to have PASSED (c 1), FAILED (2) or either (3)." */
    private static void needsOfJobs() {
        bounds(12, SIXTEEN, SIXTEEN, new long[] {1, 3});
    }

    /** "13 the RESULT of JOB a: b 1 it PASSED, 2 it FAILED." */
    private static void resultsOfJobs() {
        bounds(13, SIXTEEN, new long[] {1, 2}, ANY);
    }

    /** "14 TEST a (0 .. 15): KEYS b and c are to be equal." */
    private static void testsOfKeys() {
        bounds(14, SIXTEEN, KEYS, KEYS);
    }

    /** "15 the text a (0 the old, 1 the new one) gets one byte more, b (0 .. 255)." */
    private static void bytesOfTexts() {
        bounds(15, new long[] {0, 1}, new long[] {0, 255}, ANY);
    }

    /** "- 1 .. - 2 .. - 4: there are 200. The first of these." */
    private static void theFirstOfThese() {
        PlainBuilder x = new PlainBuilder();
        due.is("kind and numbers", x.event(16, -1, -1, -1), -1);
        for (int i = 0; i < 199; i++) {
            x.event(5, 1, 0, 0);
        }
        due.is("kind, one place left", x.event(-1, 0, 0, 0), -1);
        due.is("numbers, one place left", x.event(6, 0, 0, 0), -2);
        due.is("the last place", x.event(5, 1, 0, 0), 199);
        due.is("kind, full", x.event(-1, 0, 0, 0), -1);
        due.is("kind and numbers, full", x.event(16, -1, -1, -1), -1);
        due.is("numbers, full", x.event(0, -1, 0, 0), -2);
        due.is("untold target, full", x.event(6, 0, 0, 0), -2);
        due.is("told target, full", x.event(6, 1, 0, 0), -4);
        due.is("events()", x.events(), 200);
    }

    /** Right numbers for a house with targets 4 to 9, by the kind. */
    private static long[] good(int kind) {
        return new long[] {kind == 15 || kind == 11 ? 1 : 5, 2, kind == 12 ? 3 : 2};
    }

    /** "- 4: there are 200", for each KIND: the 200th may be of it, the 201st may not. */
    private static void fullForEveryKind() {
        for (int kind = 0; kind <= 15; kind++) {
            Told told = house();
            while (told.count() < 199) {
                told.number(0, 0);
            }
            long[] n = good(kind);
            PlainBuilder x = told.builder;
            due.is("the 200th, kind " + kind, x.event(kind, n[0], n[1], n[2]), 199);
            due.is("the 201st, kind " + kind, x.event(kind, n[0], n[1], n[2]), -4);
            due.is("events()", x.events(), 200);
        }
    }

    /** A row of 200 EVENTS that are all of one KIND, but for the targets that are told first. */
    private static void fullByEveryKind() {
        for (int kind = 0; kind <= 15; kind++) {
            Told told = house();
            long[] n = good(kind);
            while (told.count() < 200) {
                told.event(kind, n[0], n[1], n[2]);
            }
            due.is("kind " + kind, told.builder.event(kind, n[0], n[1], n[2]), -4);
            due.is("events()", told.builder.events(), 200);
        }
    }

    /** "An object is used for at most 512 calls": the 512th is answered like any other. */
    private static void lastOf512Calls() {
        last("event", x -> x.event(0, 0, 0, 0), 17);
        last("event, refused", x -> x.event(0, 64, 0, 0), -2);
        last("events", x -> x.events(), 17);
        last("value", x -> x.value(2), 42);
        last("output", x -> x.output(5, 2), 42);
        last("solve", x -> x.solve(), 1);
        last("chosen", x -> x.chosen(3), 7);
        last("job", x -> x.job(8, 0), 1);
        last("ring", x -> x.ring(0), 4);
        last("test", x -> x.test(6), 1);
        last("delta", x -> x.delta(0), -1);
    }

    private static void last(String what, Function<PlainBuilder, Number> call, long want) {
        Told told = house().number(1, 21).sum(2, 1, 1).either(4, 4, 1).write(5, 2, 2)
                .version(3, 7).houseWants(3, 1, 9).needs(8, 9, 1).result(9, 1).test(6, 2, 2)
                .newByte(255).oldByte(3);
        for (int calls = told.count(); calls < 511; calls++) {
            told.builder.events();
        }
        due.answers("the 512th call: " + what, () -> call.apply(told.builder).longValue(), want);
    }
}
