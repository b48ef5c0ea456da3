/** Promise 9: ring. */
public final class RingTest {
    private static final Due due = new Due();

    public static void main(String[] args) {
        none();
        everyKind();
        longWays();
        untoldKeys();
        latestCounts();
        wrongPlaces();
        allKeys();
        notByValues();
        due.end("RingTest");
    }

    private static void are(String what, Told told, int... keys) {
        for (int i = 0; i < keys.length; i++) {
            due.is(what + ": ring(" + i + ")", told.builder.ring(i), keys[i]);
        }
        due.is(what + ": ring(" + keys.length + ")", told.builder.ring(keys.length), -1);
        due.is(what + ": ring(64)", told.builder.ring(64), -1);
    }

    private static void none() {
        are("nothing", new Told());
        are("numbers that name keys", new Told().number(0, 0).number(1, 2).event(0, 2, 1, 2));
        are("a tree", new Told().number(0, 1).sum(1, 0, 0).sum(2, 1, 0).either(3, 2, 2));
    }

    private static void everyKind() {
        for (int kind = 1; kind <= 4; kind++) {
            are("itself as b", new Told().event(kind, 5, 5, 9), 5);
            are("itself as c", new Told().event(kind, 5, 9, 5), 5);
            are("two by b", new Told().event(kind, 5, 9, 1).event(kind, 9, 5, 1), 5, 9);
            are("two by c", new Told().event(kind, 63, 1, 0).event(kind, 0, 1, 63), 0, 63);
        }
        are("other kinds are no keys", new Told().target(1).take(1, 1, 1).needs(2, 2, 1)
                .test(3, 3, 3).event(11, 3, 3, 333));
    }

    private static void longWays() {
        Told told = new Told().sum(40, 30, 1).product(30, 2, 20).quotient(20, 10, 10)
                .either(10, 3, 40);
        are("four", told, 10, 20, 30, 40);
        // Ways into a ring and out of it are not in it.
        told.sum(50, 40, 40).sum(3, 4, 4).number(4, 9).sum(0, 50, 50);
        are("four, with ways in and out", told, 10, 20, 30, 40);
        are("two rings", told.sum(5, 6, 60).sum(60, 5, 5).sum(6, 60, 60), 5, 6, 10, 20, 30, 40,
                60);
    }

    private static void untoldKeys() {
        Told told = new Told().sum(0, 1, 1).sum(2, 0, 3);
        are("to keys that aren't told", told);
        are("told by now", told.either(1, 2, 3), 0, 1, 2);
    }

    private static void latestCounts() {
        Told told = new Told().sum(0, 1, 1).sum(1, 0, 0);
        are("two", told, 0, 1);
        are("one of them is a number by now", told.number(1, 0));
        are("one of them names itself", told.sum(1, 2, 1), 1);
    }

    private static void wrongPlaces() {
        PlainBuilder x = new Told().sum(0, 0, 0).builder;
        int[] none = {-1, 1, 64, Integer.MIN_VALUE, Integer.MAX_VALUE};
        for (int i : none) {
            due.is("ring(" + i + ")", x.ring(i), -1);
        }
        due.is("ring(0)", x.ring(0), 0);
    }

    private static void allKeys() {
        Told told = new Told();
        int[] all = new int[64];
        for (int key = 0; key < 64; key++) {
            told.sum(key, (key + 37) % 64, (key + 37) % 64);
            all[key] = key;
        }
        are("all 64 in one", told, all);
    }

    private static void notByValues() {
        Told told = new Told().number(0, 3).either(1, 0, 1);
        due.answers("value(1)", () -> told.builder.value(1), 3);
        are("also by a key that isn't worked out", told, 1);
    }
}
