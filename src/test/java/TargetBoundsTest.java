/**
 * The bounds of promise 5 and of the TARGETS in Terms. Each method stands for the words of the
 * document above it.
 */
public final class TargetBoundsTest {
    private static final long LEAST = Long.MIN_VALUE;
    private static final long MOST = Long.MAX_VALUE;

    private static final Due due = new Due();

    public static void main(String[] args) {
        leastAndMostTargetAndPath();
        noSuchTargetOrPath();
        toldWithoutSteps();
        pathsAre0AtFirst();
        stepsInTheOrderOfTheEvents();
        keysOf0And63();
        copies();
        addsModulo();
        takesItsOwnPath();
        failsIfNotTold();
        failsIfRunning();
        failsIfAKeyFails();
        failsIfOneThatItTakesFromFails();
        runsAnew();
        the41stRun();
        runsThatAreOneTooMany();
        the301stKeyOfAStep();
        theCountOfEachStep();
        due.end("TargetBoundsTest");
    }

    private static void is(String what, Told told, int target, int path, long want) {
        due.answers(what + ": output(" + target + ", " + path + ")",
                () -> told.builder.output(target, path), want);
    }

    private static void fails(String what, Told told, int target, int path) {
        due.fails(what + ": output(" + target + ", " + path + ")",
                () -> told.builder.output(target, path), IllegalStateException.class);
    }

    /** "TARGETS 0 .. 15, with PATHS 0 .. 7" */
    private static void leastAndMostTargetAndPath() {
        for (int target = 0; target < 16; target++) {
            Told told = new Told();
            for (int path = 0; path < 8; path++) {
                told.number(path, 100 + path);
            }
            told.target(target);
            for (int path = 0; path < 8; path++) {
                told.write(target, path, path);
            }
            for (int path = 0; path < 8; path++) {
                is("each path has its own", told, target, path, 100 + path);
            }
        }
        Told all = new Told();
        for (int target = 0; target < 16; target++) {
            all.number(target, 200 + target).target(target).write(target, 7, target)
                    .write(target, 0, target);
        }
        for (int target = 0; target < 16; target++) {
            is("each target has its own", all, target, 7, 200 + target);
            is("each target has its own", all, target, 0, 200 + target);
        }
    }

    /** "IllegalStateException: it FAILS, or there is no such TARGET or PATH." */
    private static void noSuchTargetOrPath() {
        Told told = new Told();
        for (int target = 0; target < 16; target++) {
            told.target(target);
        }
        int[] noTargets = {-1, -2, -16, 16, 17, 32, 256, Integer.MIN_VALUE, Integer.MAX_VALUE};
        int[] noPaths = {-1, -2, -8, 8, 9, 16, 256, Integer.MIN_VALUE, Integer.MAX_VALUE};
        for (int none : noTargets) {
            fails("no such target", told, none, 0);
            fails("no such target", told, none, 7);
        }
        for (int none : noPaths) {
            fails("no such path", told, 0, none);
            fails("no such path", told, 15, none);
            fails("neither", told, none > 0 ? 16 : -1, none);
        }
        is("the least ones", told, 0, 0, 0);
        is("the greatest ones", told, 15, 7, 0);
    }

    /** "5 TARGET a is told, without STEPS (also if it was)" */
    private static void toldWithoutSteps() {
        Told told = new Told().number(0, 3).target(8).target(9).write(8, 1, 0).write(9, 1, 0)
                .write(8, 2, 63);
        fails("a step fails", told, 8, 1);
        told.target(8);
        for (int path = 0; path < 8; path++) {
            is("told again", told, 8, path, 0);
        }
        is("the other one keeps its steps", told, 9, 1, 3);
        is("a step behind that", told.add(8, 1, 2).write(8, 2, 0), 8, 1, 0);
        is("a step behind that", told, 8, 2, 3);
        is("told twice more", told.target(8).target(8), 8, 2, 0);
    }

    /** "its PATHS are 0 at first" */
    private static void pathsAre0AtFirst() {
        for (int from = 0; from < 8; from++) {
            Told told = new Told().number(0, 5).target(0).write(0, (from + 1) % 8, 0)
                    .copy(0, (from + 2) % 8, from).add(0, (from + 1) % 8, from);
            is("never written", told, 0, from, 0);
            is("copied from there", told, 0, (from + 2) % 8, 0);
            is("added from there", told, 0, (from + 1) % 8, 5);
            is("0 also in the next run", told, 0, from, 0);
        }
        for (int path = 0; path < 8; path++) {
            int seen = (path + 3) % 8;
            // What a path is at first is copied before the path is written.
            Told told = new Told().number(0, 5).target(0).copy(0, seen, path).write(0, path, 0)
                    .target(1).take(1, seen, 0).take(1, path, 0).take(1, seen, 0);
            is("the first run", told, 0, seen, 0);
            is("the run behind it", told, 0, seen, 0);
            is("the third run that another one takes from", told, 1, seen, 0);
            is("what was written then", told, 1, path, 5);
        }
    }

    /** "STEPS of a TARGET that is told, in the order of the EVENTS" */
    private static void stepsInTheOrderOfTheEvents() {
        Told told = new Told().number(0, 1).number(1, 2).target(0);
        is("no step", told, 0, 0, 0);
        is("one step", told.write(0, 0, 0), 0, 0, 1);
        is("the later one overwrites it", told.write(0, 0, 1), 0, 0, 2);
        while (told.count() < 199) {
            told.add(0, 1, 0);
        }
        is("194 steps of 2", told, 0, 1, 388);
        is("the last of 200 events", told.copy(0, 1, 7), 0, 1, 0);
    }

    /** "6 TARGET a WRITES KEY c to PATH b" */
    private static void keysOf0And63() {
        Told told = new Told().number(0, LEAST).number(63, MOST).target(0).write(0, 0, 63)
                .write(0, 7, 0);
        is("key 63 to path 0", told, 0, 0, MOST);
        is("key 0 to path 7", told, 0, 7, LEAST);
        is("the key is told later", told.number(63, 4), 0, 0, 4);
    }

    /** "7 TARGET a COPIES: PATH b becomes what PATH c is" */
    private static void copies() {
        for (int to = 0; to < 8; to++) {
            for (int from = 0; from < 8; from++) {
                Told told = new Told().number(1, 6).target(0).write(0, from, 1).copy(0, to, from);
                is("copied, also to itself", told, 0, to, 6);
                is("where it came from", told, 0, from, 6);
            }
        }
    }

    /** "8 it ADDS: PATH b becomes what it was and what PATH c is together (modulo 2 to the 64)" */
    private static void addsModulo() {
        long[] numbers = {LEAST, LEAST + 1, -1, 0, 1, MOST - 1, MOST};
        for (long left : numbers) {
            for (long right : numbers) {
                Told told = new Told().number(0, left).number(1, right).target(0).write(0, 0, 0)
                        .write(0, 7, 1).add(0, 0, 7).add(0, 7, 7);
                is(left + " and " + right, told, 0, 0, left + right);
                is(right + " to itself", told, 0, 7, right << 1);
            }
        }
        is("most and 1", new Told().number(0, MOST).number(1, 1).target(0).write(0, 0, 0)
                .write(0, 1, 1).add(0, 0, 1), 0, 0, LEAST);
        is("least and - 1", new Told().number(0, LEAST).number(1, -1).target(0).write(0, 0, 0)
                .write(0, 1, 1).add(0, 0, 1), 0, 0, MOST);
    }

    /** "9 it TAKES PATH b of TARGET c: its own PATH b becomes that" */
    private static void takesItsOwnPath() {
        for (int path = 0; path < 8; path++) {
            Told told = new Told().number(0, 6).number(1, 9).target(0).target(15);
            for (int each = 0; each < 8; each++) {
                told.write(0, each, 0).write(15, each, 1);
            }
            told.take(0, path, 15);
            for (int each = 0; each < 8; each++) {
                is("taken is path " + path + " alone", told, 0, each, each == path ? 9 : 6);
            }
            is("the other one keeps it", told, 15, path, 9);
        }
    }

    /** "It FAILS if it isn't told" */
    private static void failsIfNotTold() {
        for (int target = 0; target < 16; target++) {
            Told told = new Told();
            for (int other = 0; other < 16; other++) {
                if (other != target) {
                    told.target(other);
                }
            }
            fails("all others are told", told, target, 0);
            is("another", told, 15 - target, 0, 0);
            is("told", told.target(target), target, 0, 0);
        }
    }

    /** "or is running" */
    private static void failsIfRunning() {
        for (int size = 1; size <= 16; size++) {
            Told told = new Told().number(0, 4);
            for (int target = 0; target < size; target++) {
                told.target(target);
            }
            for (int target = 0; target < size; target++) {
                told.take(target, 3, (target + 1) % size);
            }
            fails("a ring of " + size, told, 0, 0);
            fails("a ring of " + size, told, size - 1, 3);
            told.target(size - 1).write(size - 1, 3, 0);
            is("a chain of " + size, told, 0, 3, 4);
            if (size > 1) {
                // One that has run is running no longer: it may be taken from again.
                told.target(0).take(0, 3, size - 1).take(0, 3, size - 1);
                is("taken twice", told, 0, 3, 4);
            }
        }
    }

    /** "if a KEY that it WRITES FAILS" */
    private static void failsIfAKeyFails() {
        Told told = new Told().number(0, 1).number(1, 0).quotient(2, 0, 1).sum(3, 3, 0)
                .either(4, 2, 0);
        int[] failing = {63, 2, 3};
        for (int key : failing) {
            told.target(5).write(5, 0, 0).write(5, 1, key);
            fails("the last step", told, 5, 0);
            told.write(5, 1, 0);
            fails("overwritten", told, 5, 0);
            told.target(5).write(5, 1, 4);
            is("either", told, 5, 1, 1);
        }
    }

    /** "or a TARGET that it TAKES from .. FAILS" */
    private static void failsIfOneThatItTakesFromFails() {
        Told told = new Told().number(0, 7).target(0).write(0, 0, 0).take(0, 1, 9);
        fails("not told", told, 0, 0);
        told.target(9).write(9, 5, 63);
        fails("a key fails, of another path", told, 0, 0);
        told.target(9).take(9, 1, 10);
        fails("one that it takes from fails", told, 0, 0);
        is("all are there", told.target(10), 0, 0, 7);
        fails("it takes from itself", told.take(10, 0, 10), 0, 0);
        is("the steps are gone", told.target(0).write(0, 0, 0), 0, 0, 7);
    }

    /** "which RUNS for that anew" */
    private static void runsAnew() {
        Told told = new Told().number(0, 7).target(1).add(1, 0, 1).write(1, 1, 0).target(0)
                .take(0, 0, 1).take(0, 0, 1).take(0, 1, 1);
        is("nothing is left of its first run", told, 0, 0, 0);
        is("what its last run wrote", told, 0, 1, 7);
        // What the taker did with its own paths is not seen by the other one.
        told.target(2).write(2, 0, 0).target(3).write(3, 0, 0).write(3, 1, 0).copy(2, 1, 5)
                .take(2, 1, 3).take(3, 7, 1);
        is("taken", told, 2, 1, 7);
        is("its own", told, 2, 0, 7);
        is("not taken", told, 2, 7, 0);
    }

    /** "The 41st RUN since output() was called lets all FAIL at once." */
    private static void the41stRun() {
        for (int runs = 1; runs <= 90; runs++) {
            Costs costs = new Costs();
            int target = costs.target(runs);
            costs.told.number(0, 8).write(target, 7, 0);
            for (int time = 0; time < 2; time++) {
                if (runs <= 40) {
                    is(runs + " runs", costs.told, target, 7, 8);
                } else {
                    fails(runs + " runs", costs.told, target, 7);
                }
                is("1 run, behind that", costs.told, 0, 0, 0);
            }
        }
    }

    /** The 41st RUN may stand at any depth, and a count is that of one call alone. */
    private static void runsThatAreOneTooMany() {
        for (int deep = 1; deep <= 14; deep++) {
            Told told = new Told().number(0, 1).target(0).write(0, 0, 0);
            for (int target = 1; target <= deep; target++) {
                told.target(target).take(target, 0, target - 1);
            }
            told.target(15).take(15, 0, deep);
            // deep + 2 runs so far; each more of target 0 is one.
            for (int runs = deep + 2; runs < 40; runs++) {
                told.take(15, 0, 0).add(15, 1, 0);
            }
            is("40 runs", told, 15, 1, 38 - deep);
            is("40 runs, again", told, 15, 1, 38 - deep);
            is("fewer", told, deep, 0, 1);
            told.take(deep, 1, 0);
            fails("one more, inside", told, 15, 1);
            is("fewer, behind that", told, deep, 0, 1);
        }
    }

    /** "the 301st KEY that is worked out .. since the STEP of a TARGET began" */
    private static void the301stKeyOfAStep() {
        for (int cost = 1; cost <= 320; cost++) {
            Costs costs = new Costs();
            int key = costs.key(cost);
            int other = costs.number(3);
            Told told = costs.told.target(0).write(0, 0, key).target(1).take(1, 0, 0).target(2)
                    .write(2, 0, other);
            if (cost <= 300) {
                is(cost + " keys", told, 0, 0, Costs.valueOf(cost));
                is(cost + " keys, taken", told, 1, 0, Costs.valueOf(cost));
            } else {
                fails(cost + " keys", told, 0, 0);
                fails(cost + " keys, taken", told, 1, 0);
            }
            is("1 key, behind that", told, 2, 0, 3);
            told.either(60, key, other).target(3).write(3, 0, 60);
            if (cost <= 299) {
                is(cost + " keys, either", told, 3, 0, Costs.valueOf(cost));
            } else {
                fails(cost + " keys, either", told, 3, 0);
            }
        }
    }

    /** Each STEP has its own count, also in a RUN that another TARGET's STEP began. */
    private static void theCountOfEachStep() {
        Costs costs = new Costs();
        int dear = costs.key(300);
        Told told = costs.told;
        for (int target = 0; target < 16; target++) {
            told.target(target).write(target, 0, dear).write(target, 1, dear);
            if (target > 0) {
                told.take(target, 2, target - 1);
            }
            told.write(target, 3, dear).add(target, 4, 0).add(target, 4, 1).add(target, 4, 3);
        }
        for (int target = 0; target < 16; target++) {
            is("300 keys in each step", told, target, 4, 3 * Costs.valueOf(300));
        }
    }
}
