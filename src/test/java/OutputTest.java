/** Promise 5: output. */
public final class OutputTest {
    private static final Due due = new Due();

    public static void main(String[] args) {
        steps();
        orderOfSteps();
        toldAnew();
        noSuchOne();
        failingKey();
        taking();
        ringsOfTargets();
        limitOfRuns();
        limitOfKeysIsForEachStep();
        freshTrees();
        deepestRun();
        due.end("OutputTest");
    }

    private static void is(String what, Told told, int target, int path, long want) {
        due.answers(what + ": output(" + target + ", " + path + ")",
                () -> told.builder.output(target, path), want);
    }

    private static void fails(String what, Told told, int target, int path) {
        due.fails(what + ": output(" + target + ", " + path + ")",
                () -> told.builder.output(target, path), IllegalStateException.class);
    }

    private static void steps() {
        Told told = new Told().number(0, 5).number(1, Long.MAX_VALUE).sum(2, 0, 0).target(15)
                .write(15, 0, 0).write(15, 7, 1).copy(15, 1, 7).add(15, 1, 0).copy(15, 2, 3)
                .write(15, 4, 2).add(15, 4, 4).write(15, 5, 0).copy(15, 5, 6);
        is("written", told, 15, 0, 5);
        is("written", told, 15, 7, Long.MAX_VALUE);
        is("copied and added, wrapping around", told, 15, 1, Long.MIN_VALUE + 4);
        is("copied from nothing", told, 15, 2, 0);
        is("never touched", told, 15, 3, 0);
        is("added to itself", told, 15, 4, 20);
        is("copied over what was written", told, 15, 5, 0);
        is("no steps", new Told().target(0), 0, 0, 0);
    }

    private static void orderOfSteps() {
        Told told = new Told().number(0, 5).target(0).copy(0, 1, 0).write(0, 0, 0).target(1)
                .add(0, 2, 0).write(1, 0, 0).add(0, 2, 0).copy(0, 3, 2).add(0, 2, 0);
        is("copied before it was written", told, 0, 1, 0);
        is("added three times", told, 0, 2, 15);
        is("copied in between", told, 0, 3, 10);
        is("another target's step", told, 1, 0, 5);
        is("not its step", told, 1, 2, 0);
        is("the key as the latest tells it", told.number(0, 7), 0, 2, 21);
    }

    private static void toldAnew() {
        Told told = new Told().number(0, 5).target(2).target(3).write(2, 0, 0).write(3, 0, 0);
        is("written", told, 2, 0, 5);
        is("told anew, without steps", told.target(2), 2, 0, 0);
        is("the other one", told, 3, 0, 5);
        is("a step behind that", told.add(2, 1, 0).write(2, 0, 0), 2, 1, 0);
        is("a step behind that", told, 2, 0, 5);
        Told failing = new Told().target(4).write(4, 0, 0);
        fails("a key that isn't told", failing, 4, 1);
        is("told anew", failing.target(4), 4, 1, 0);
    }

    private static void noSuchOne() {
        Told told = new Told().target(0).target(15).number(3, 3);
        int[] none = {-1, 16, Integer.MIN_VALUE, Integer.MAX_VALUE};
        for (int target : none) {
            fails("no such target", told, target, 0);
        }
        int[] noPaths = {-1, 8, 9, Integer.MIN_VALUE, Integer.MAX_VALUE};
        for (int path : noPaths) {
            fails("no such path", told, 0, path);
            fails("no such path", told, 15, path);
        }
        fails("not told", told, 3, 0);
        is("told", told, 15, 7, 0);
    }

    private static void failingKey() {
        Told told = new Told().number(0, 5).number(1, 0).quotient(2, 0, 1).target(0)
                .write(0, 0, 0).write(0, 1, 2);
        fails("a key fails", told, 0, 0);
        fails("a key fails", told, 0, 1);
        fails("a key fails that is overwritten", told.write(0, 1, 0), 0, 1);
        is("the key by now", told.number(1, 5).number(0, 10), 0, 1, 10);
        is("either", new Told().number(0, 5).either(1, 9, 0).target(0).write(0, 3, 1), 0, 3, 5);
    }

    private static void taking() {
        Told told = new Told().number(0, 5).number(1, 6).target(0).target(1).write(1, 2, 0)
                .write(1, 3, 1).write(0, 3, 1).take(0, 2, 1).take(0, 4, 1);
        is("taken", told, 0, 2, 5);
        is("its own", told, 0, 3, 6);
        is("taken, but never touched", told, 0, 4, 0);
        is("taken over its own", told.take(0, 3, 1).number(1, 8), 0, 3, 8);
        // Steps of the other one that are told later count as well: it runs anew.
        is("a step told later", told.add(1, 2, 3), 0, 2, 13);
        Told untold = new Told().target(0).take(0, 0, 1);
        fails("from one that isn't told", untold, 0, 5);
        is("told by now", untold.target(1), 0, 5, 0);
        Told failing = new Told().target(0).target(1).take(0, 0, 1).write(1, 7, 0);
        fails("from one that fails", failing, 0, 0);
        is("that one by now", failing.number(0, 2), 0, 0, 0);
    }

    private static void ringsOfTargets() {
        Told told = new Told().target(0).take(0, 0, 0);
        fails("from itself", told, 0, 0);
        told = new Told().number(0, 4).target(0).target(1).target(2).take(0, 0, 1).take(1, 0, 2)
                .take(2, 0, 0).target(3).take(3, 0, 1);
        for (int target = 0; target <= 3; target++) {
            fails("a ring of three", told, target, 0);
        }
        told.target(2).write(2, 0, 0);
        for (int target = 0; target <= 3; target++) {
            is("the ring cut", told, target, 0, 4);
        }
    }

    /** Target 0 takes from target 1 so many times. */
    private static Told takes(int times) {
        Told told = new Told().number(0, 1).target(0).target(1).write(1, 0, 0);
        for (int i = 0; i < times; i++) {
            told.take(0, 0, 1).add(0, 1, 0);
        }
        return told;
    }

    private static void limitOfRuns() {
        is("40 runs", takes(39), 0, 1, 39);
        is("40 runs, again", takes(39), 0, 1, 39);
        fails("41 runs", takes(40), 0, 1);
        is("1 run of the other one", takes(40), 1, 0, 1);
        // 1 + 2 + 4 + 8 + 16 runs are 31, and 32 more are too many.
        Told told = new Told().number(0, 3).target(0).write(0, 0, 0);
        for (int target = 1; target <= 5; target++) {
            told.target(target).take(target, 0, target - 1).take(target, 0, target - 1);
        }
        is("31 runs", told, 4, 0, 3);
        fails("63 runs", told, 5, 0);
        is("31 runs behind a failure", told, 4, 0, 3);
    }

    private static void limitOfKeysIsForEachStep() {
        Told told = new Told().costlyKeys().target(0).target(1).write(0, 0, 10).write(0, 1, 10);
        is("300 keys for each of two steps", told, 0, 1, 150);
        is("also where another one takes", told.take(1, 1, 0).write(1, 0, 10), 1, 1, 150);
        fails("301 keys in a step", told.write(0, 2, 11), 0, 1);
        fails("in one that another takes from", told, 1, 1);
        told.number(63, 1).either(62, 11, 63).target(2).write(2, 0, 62);
        fails("301 keys and an either", told, 2, 0);
        due.answers("value(10) behind that", () -> told.builder.value(10), 150);
    }

    private static void freshTrees() {
        Told told = new Told().number(0, 1).target(1).add(1, 0, 1).write(1, 1, 0).target(0)
                .take(0, 0, 1).take(0, 0, 1).take(0, 1, 1);
        is("nothing is left of the first run", told, 0, 0, 0);
        is("nothing is left of the first run", told, 1, 0, 0);
        is("what the last run left", told, 0, 1, 1);
        is("its own", told.write(0, 5, 0), 0, 5, 1);
        is("not what another target wrote", told, 1, 5, 0);
    }

    private static void deepestRun() {
        Told told = new Told().number(0, 1);
        for (int key = 1; key < 64; key++) {
            told.sum(key, key - 1, 0);
        }
        told.target(0).write(0, 6, 63);
        for (int target = 1; target < 16; target++) {
            told.target(target).take(target, 6, target - 1).add(target, 6, 6);
        }
        is("16 targets and 64 keys deep", told, 15, 6, 64L << 15);
        fails("all targets in a ring", told.take(0, 0, 15), 15, 6);
    }
}
