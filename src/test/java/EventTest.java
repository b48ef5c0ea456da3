/** Promises 1 to 3: a new object, event, events. */
public final class EventTest {
    private static final long LEAST = Long.MIN_VALUE;
    private static final long MOST = Long.MAX_VALUE;
    private static final long[] FAR = {LEAST, -1L << 32, 1L << 32, (1L << 32) + 1, MOST};

    private static final Due due = new Due();

    public static void main(String[] args) {
        newObject();
        numbersOfEvents();
        noSuchKind();
        boundsOfKinds();
        demandBounds();
        stepsWantToldTarget();
        whatIsNotNamedMayBeAnything();
        farNumbers();
        fullRow();
        refusedEventsLeaveNothing();
        due.end("EventTest");
    }

    private static void newObject() {
        PlainBuilder x = new PlainBuilder();
        due.is("events() of a new one", x.events(), 0);
        due.fails("value(0) of a new one", () -> x.value(0), IllegalStateException.class);
        due.fails("output(0, 0) of a new one", () -> x.output(0, 0), IllegalStateException.class);
        due.is("solve() of a new one", x.solve(), 1);
        due.is("job(0, 0) of a new one", x.job(0, 0), -1);
        due.is("ring(0) of a new one", x.ring(0), -1);
        due.is("test(0) of a new one", x.test(0), -1);
        due.fails("delta(0) of a new one", () -> x.delta(0), ArrayIndexOutOfBoundsException.class);
        PlainBuilder other = new PlainBuilder();
        other.event(0, 0, 5, 0);
        due.is("events() beside another", x.events(), 0);
    }

    private static void numbersOfEvents() {
        PlainBuilder x = new PlainBuilder();
        due.is("first", x.event(0, 0, 7, 0), 0);
        due.is("second", x.event(0, 0, 7, 0), 1);
        due.is("refused", x.event(0, 64, 7, 0), -2);
        due.is("third", x.event(13, 0, 1, 0), 2);
        due.is("events()", x.events(), 3);
    }

    private static void noSuchKind() {
        PlainBuilder x = new PlainBuilder();
        int[] kinds = {-1, 16, 17, Integer.MIN_VALUE, Integer.MAX_VALUE};
        for (int kind : kinds) {
            due.is("kind " + kind, x.event(kind, 0, 0, 0), -1);
            due.is("kind " + kind + " with wrong numbers", x.event(kind, -1, -1, -1), -1);
        }
        due.is("events()", x.events(), 0);
    }

    /** Asks for a builder with target 3 told; the event before it is number 0. */
    private static void bounds(int kind, long a, long b, long c, boolean allowed) {
        PlainBuilder x = new PlainBuilder();
        x.event(5, 3, 0, 0);
        String call = "event(" + kind + ", " + a + ", " + b + ", " + c + ")";
        due.is(call, x.event(kind, a, b, c), allowed ? 1 : -2);
        due.is("events() behind " + call, x.events(), allowed ? 2 : 1);
    }

    /** Each of the three numbers at its edges, the other two being good. */
    private static void edges(int kind, long[] a, long[] b, long[] c) {
        long[][] all = {a, b, c};
        for (int which = 0; which < 3; which++) {
            long least = all[which][0];
            long most = all[which][1];
            edge(kind, all, which, least, true);
            edge(kind, all, which, most, true);
            if (least != LEAST) {
                edge(kind, all, which, least - 1, false);
                edge(kind, all, which, most + 1, false);
                edge(kind, all, which, LEAST, false);
                edge(kind, all, which, MOST, false);
            }
        }
    }

    private static void edge(int kind, long[][] all, int which, long number, boolean allowed) {
        bounds(kind, which == 0 ? number : all[0][0], which == 1 ? number : all[1][0],
                which == 2 ? number : all[2][0], allowed);
    }

    private static void boundsOfKinds() {
        long[] any = {LEAST, MOST};
        long[] keys = {0, 63};
        long[] sixteen = {0, 15};
        long[] paths = {0, 7};
        long[] told = {3, 3};
        edges(0, keys, any, any);
        for (int kind = 1; kind <= 4; kind++) {
            edges(kind, keys, keys, keys);
        }
        edges(5, sixteen, any, any);
        edges(6, told, paths, keys);
        edges(7, told, paths, paths);
        edges(8, told, paths, paths);
        edges(9, told, paths, sixteen);
        edges(10, new long[] {0, 5}, new long[] {1, 9}, any);
        edges(12, sixteen, sixteen, new long[] {1, 3});
        edges(13, sixteen, new long[] {1, 2}, any);
        edges(14, sixteen, keys, keys);
        edges(15, new long[] {0, 1}, new long[] {0, 255}, any);
    }

    private static void demandBounds() {
        bounds(11, 0, 0, 0, true);
        bounds(11, 0, 0, 599, true);
        bounds(11, 0, 0, 600, false);
        bounds(11, 5, 9, 599, true);
        bounds(11, 5, 10, 599, false);
        bounds(11, 6, 9, 599, false);
        bounds(11, -1, 1, 11, false);
        bounds(11, 0, -1, 11, false);
        bounds(11, 0, 1, 91, true);
        // The house is version 0 of name 0 alone.
        bounds(11, 1, 0, 11, false);
        bounds(11, 5, 0, 11, false);
        bounds(11, -1, 0, 11, false);
        // c / 100, as Java divides, is what must be from 0 to 5.
        bounds(11, 0, 0, -99, true);
        bounds(11, 0, 0, -100, false);
        bounds(11, 0, 0, LEAST, false);
        bounds(11, 0, 0, MOST, false);
    }

    private static void stepsWantToldTarget() {
        for (int kind = 6; kind <= 9; kind++) {
            bounds(kind, 0, 0, 0, false);
            bounds(kind, 2, 0, 0, false);
            bounds(kind, 3, 0, 0, true);
        }
        PlainBuilder x = new PlainBuilder();
        due.is("key 3 is no target", x.event(0, 3, 1, 1), 0);
        due.is("step of an untold target", x.event(6, 3, 1, 3), -2);
    }

    private static void whatIsNotNamedMayBeAnything() {
        for (long any : FAR) {
            bounds(0, 5, any, any, true);
            bounds(5, 5, any, any, true);
            bounds(10, 5, 5, any, true);
            bounds(13, 5, 2, any, true);
            bounds(15, 1, 5, any, true);
        }
    }

    /** Numbers that are good once they are cut to an int are still wrong. */
    private static void farNumbers() {
        int[] allNamed = {1, 2, 3, 4, 6, 7, 8, 9, 12, 14};
        for (long far : FAR) {
            for (int kind : allNamed) {
                bounds(kind, far + 3, 1, 1, false);
                bounds(kind, 3, far + 1, 1, false);
                bounds(kind, 3, 1, far + 1, false);
            }
            bounds(0, far, 1, 1, false);
            bounds(5, far, 1, 1, false);
            bounds(10, far, 1, 1, false);
            bounds(10, 1, far + 1, 1, false);
            bounds(11, far, 1, 111, false);
            bounds(11, 1, far + 1, 111, false);
            bounds(11, 1, 1, far + 111, false);
            bounds(13, far, 1, 1, false);
            bounds(13, 1, far + 1, 1, false);
            bounds(15, far, 1, 1, false);
            bounds(15, 1, far + 1, 1, false);
        }
    }

    private static void fullRow() {
        PlainBuilder x = new PlainBuilder();
        for (int i = 0; i < 200; i++) {
            due.is("event " + i, x.event(0, i % 64, i, 0), i);
        }
        due.is("events()", x.events(), 200);
        due.is("one more", x.event(0, 0, 0, 0), -4);
        due.is("no such kind, full", x.event(16, 0, 0, 0), -1);
        due.is("wrong numbers, full", x.event(0, 64, 0, 0), -2);
        due.is("untold target, full", x.event(6, 0, 0, 0), -2);
        due.is("events()", x.events(), 200);
        due.answers("value(7) as the latest tells it", () -> x.value(7), 199);
        due.answers("value(0)", () -> x.value(0), 192);
    }

    private static void refusedEventsLeaveNothing() {
        PlainBuilder x = new Told().number(1, 4).target(2).write(2, 1, 1).builder;
        x.event(0, 65, 5, 0);
        x.event(1, 1, 64, 0);
        x.event(6, 2, 8, 1);
        x.event(6, 2, 1, 64);
        x.event(-1, 1, 9, 0);
        due.answers("value(1)", () -> x.value(1), 4);
        due.answers("output(2, 1)", () -> x.output(2, 1), 4);
        due.is("events()", x.events(), 3);
    }
}
