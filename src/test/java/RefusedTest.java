import java.util.ArrayList;
import java.util.List;
import java.util.function.Consumer;
import java.util.function.Supplier;

/** A refused call changes nothing: behind it a house answers all just as one without it. */
public final class RefusedTest {
    private static final long LEAST = Long.MIN_VALUE;
    private static final long MOST = Long.MAX_VALUE;

    private static final Due due = new Due();

    public static void main(String[] args) {
        List<long[]> wrong = wrongEvents();
        tellAll("nothing told", PlainBuilder::new, wrong);
        tellAll("all kinds told", () -> house().builder, wrong);
        tellAll("a full row", RefusedTest::fullHouse, wrong);
        tellAll("a full row, good events", RefusedTest::fullHouse, goodEvents());
        askAll("nothing told", PlainBuilder::new);
        askAll("all kinds told", () -> house().builder);
        askAll("a full row", RefusedTest::fullHouse);
        refusedIsNotTheLatest();
        refusedTakesNoNumber();
        due.end("RefusedTest");
    }

    /** All kinds, with some of every answer; key 63, target 9 and test 9 aren't told. */
    private static Told house() {
        Told told = new Told().costlyKeys().number(30, -9).number(31, 0).quotient(32, 30, 31)
                .either(33, 32, 30).sum(34, 35, 30).either(35, 34, 30);
        told.target(0).write(0, 0, 30).add(0, 1, 0).copy(0, 2, 1).target(1).take(1, 0, 0)
                .write(1, 3, 10).target(2).write(2, 0, 11).target(3).take(3, 0, 3).target(4)
                .take(4, 0, 9);
        told.version(0, 1).version(0, 2).version(1, 9).houseWants(0, 1, 9).wants(0, 2, 1, 1, 9)
                .version(5, 4);
        told.needs(0, 1, 1).needs(2, 3, 2).result(3, 1).needs(4, 2, 3).needs(5, 5, 3)
                .result(6, 2);
        told.test(0, 14, 14).test(1, 14, 15).test(2, 30, 31).test(3, 63, 0);
        return told.oldByte(1).newByte(1).newByte(200);
    }

    private static PlainBuilder fullHouse() {
        Told told = house();
        for (int i = 0; told.count() < 200; i++) {
            told.event(15, 1, i % 256, 0);
        }
        return told.builder;
    }

    /** Right numbers of each kind, the kind itself being first. */
    private static List<long[]> goodEvents() {
        List<long[]> all = new ArrayList<>();
        for (int kind = 0; kind <= 4; kind++) {
            all.add(new long[] {kind, 30, 14, 14});
        }
        for (int kind = 5; kind <= 9; kind++) {
            all.add(new long[] {kind, 0, 0, 1});
        }
        all.add(new long[] {10, 0, 9, 0});
        all.add(new long[] {11, 0, 0, 599});
        all.add(new long[] {11, 0, 2, 599});
        all.add(new long[] {12, 6, 3, 2});
        all.add(new long[] {13, 3, 2, 0});
        all.add(new long[] {14, 2, 30, 30});
        all.add(new long[] {15, 0, 200, 0});
        all.add(new long[] {15, 1, 200, 0});
        return all;
    }

    private static List<long[]> wrongEvents() {
        List<long[]> all = new ArrayList<>();
        for (long kind : new long[] {-1, 16, Integer.MIN_VALUE, Integer.MAX_VALUE}) {
            all.add(new long[] {kind, 0, 0, 0});
        }
        long[][] most = {
            {63, -1, -1}, {63, 63, 63}, {63, 63, 63}, {63, 63, 63}, {63, 63, 63}, {15, -1, -1},
            {15, 7, 63}, {15, 7, 7}, {15, 7, 7}, {15, 7, 15}, {5, 9, -1}, {5, 9, 599},
            {15, 15, 3}, {15, 2, -1}, {15, 63, 63}, {1, 255, -1}
        };
        for (long[] good : goodEvents()) {
            for (int which = 1; which <= 3; which++) {
                long bound = most[(int) good[0]][which - 1];
                // c of a DEMAND may be below 0 down to - 99.
                long below = good[0] == 11 && which == 3 ? -100 : -1;
                if (bound >= 0) {
                    for (long number : new long[] {below, bound + 1, LEAST, MOST}) {
                        long[] event = good.clone();
                        event[which] = number;
                        all.add(event);
                    }
                }
            }
        }
        for (int kind = 6; kind <= 9; kind++) {
            all.add(new long[] {kind, 9, 0, 0});
        }
        all.add(new long[] {10, 0, 0, 0});
        all.add(new long[] {11, 1, 0, 11});
        all.add(new long[] {12, 0, 1, 0});
        all.add(new long[] {13, 3, 0, 0});
        return all;
    }

    private static void tellAll(String what, Supplier<PlainBuilder> houses, List<long[]> events) {
        String before = Snapshot.of(houses);
        for (long[] e : events) {
            String call = what + ": event(" + e[0] + ", " + e[1] + ", " + e[2] + ", " + e[3] + ")";
            boolean noKind = e[0] < 0 || e[0] > 15;
            int want = noKind ? -1 : what.endsWith("good events") ? -4 : -2;
            due.is(call, houses.get().event((int) e[0], e[1], e[2], e[3]), want);
            changesNothing(call, houses, before, x -> x.event((int) e[0], e[1], e[2], e[3]));
        }
    }

    private static void askAll(String what, Supplier<PlainBuilder> houses) {
        String before = Snapshot.of(houses);
        int[] places = {-1, 0, 1, 2, 3, 4, 5, 6, 9, 10, 11, 15, 16, 32, 34, 63, 64, 200,
            Integer.MIN_VALUE, Integer.MAX_VALUE};
        for (int i : places) {
            changesNothing(what + ": value(" + i + ")", houses, before, x -> x.value(i));
            changesNothing(what + ": output(" + i + ", 0)", houses, before, x -> x.output(i, 0));
            changesNothing(what + ": output(0, " + i + ")", houses, before, x -> x.output(0, i));
            changesNothing(what + ": chosen(" + i + ")", houses, before, x -> x.chosen(i));
            changesNothing(what + ": job(" + i + ", 0)", houses, before, x -> x.job(i, 0));
            changesNothing(what + ": job(0, " + i + ")", houses, before, x -> x.job(0, i));
            changesNothing(what + ": ring(" + i + ")", houses, before, x -> x.ring(i));
            changesNothing(what + ": test(" + i + ")", houses, before, x -> x.test(i));
            changesNothing(what + ": delta(" + i + ")", houses, before, x -> x.delta(i));
        }
        changesNothing(what + ": solve()", houses, before, PlainBuilder::solve);
        changesNothing(what + ": events()", houses, before, PlainBuilder::events);
    }

    private static void changesNothing(String what, Supplier<PlainBuilder> houses, String before,
            Consumer<PlainBuilder> call) {
        String behind = Snapshot.of(() -> {
            PlainBuilder x = houses.get();
            Due.outcome(() -> {
                call.accept(x);
                return 0;
            });
            return x;
        });
        due.is(what + " changes nothing", behind.equals(before) ? 0 : 1, 0);
    }

    /** What is refused does not TELL: the latest of those that are there goes on counting. */
    private static void refusedIsNotTheLatest() {
        PlainBuilder x = new Told().number(3, 5).result(3, 1).test(3, 3, 3).builder;
        due.is("a key", x.event(1, 3, 3, 64), -2);
        due.answers("value(3)", () -> x.value(3), 5);
        due.is("ring(0)", x.ring(0), -1);
        due.is("a result", x.event(13, 3, 3, 0), -2);
        due.is("job(3, 0)", x.job(3, 0), 3);
        due.is("a test", x.event(14, 3, 3, -1), -2);
        due.is("test(3)", x.test(3), 1);
        due.is("a target", x.event(5, 16, 0, 0), -2);
        due.fails("output(0, 0)", () -> x.output(0, 0), IllegalStateException.class);
        due.is("a job", x.event(12, 4, 3, 0), -2);
        due.is("job(4, 0)", x.job(4, 0), -1);
        due.is("a version", x.event(10, 0, 10, 0), -2);
        due.is("a demand", x.event(11, 0, 0, 600), -2);
        due.is("solve()", x.solve(), 1);
        due.is("a byte", x.event(15, 1, 256, 0), -2);
        due.fails("delta(0)", () -> x.delta(0), ArrayIndexOutOfBoundsException.class);
        due.is("events()", x.events(), 3);
    }

    private static void refusedTakesNoNumber() {
        PlainBuilder x = new PlainBuilder();
        for (int number = 0; number < 100; number++) {
            due.is("no such kind", x.event(16, 0, 0, 0), -1);
            due.is("no such key", x.event(0, 64, 0, 0), -2);
            due.is("event " + number, x.event(0, 0, number, 0), number);
            due.is("events()", x.events(), number + 1);
        }
    }
}
