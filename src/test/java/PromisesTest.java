import java.util.function.Consumer;

/**
 * "What it is" and the promises of the document, sentence by sentence in its order: each method
 * stands for the words above it. TermsTest does the same for what stands between the two.
 */
public final class PromisesTest {
    private static final int LEAST = Integer.MIN_VALUE;
    private static final int MOST = Integer.MAX_VALUE;
    private static final Class<IllegalStateException> STATE = IllegalStateException.class;
    private static final Class<ArrayIndexOutOfBoundsException> INDEX =
            ArrayIndexOutOfBoundsException.class;

    private static final Due due = new Due();

    public static void main(String[] args) {
        nothingElseIsKept();
        usedFor512Calls();
        newObject();
        objectsOfTheirOwn();
        oneEventMore();
        noSuchKind();
        noneThatMayBeThere();
        mayBeAnything();
        mustBeTold();
        there200();
        theFirstOfThese();
        howManyEvents();
        whatAKeyIs();
        noValue();
        whatAPathIs();
        noOutput();
        solved();
        chosenVersion();
        chosenNone();
        ofAJob();
        noneOfAJob();
        theIthInARing();
        ofATest();
        byteOfTheDelta();
        noByteOfTheDelta();
        due.end("PromisesTest");
    }

    /** All kinds: key 2 is 42, target 5 leaves it in path 2, and so on; 16 events. */
    private static Told house() {
        return new Told().number(1, 21).sum(2, 1, 1).either(4, 4, 1).quotient(3, 1, 0).target(5)
                .write(5, 2, 2).version(3, 7).houseWants(3, 1, 9).version(0, 8).needs(8, 9, 1)
                .needs(8, 9, 3).result(9, 1).test(6, 2, 2).test(7, 3, 2).newByte(255).oldByte(3);
    }

    private static void fails(String what, Told told, int key) {
        due.fails(what + ": value(" + key + ")", () -> told.builder.value(key), STATE);
    }

    private static void runFails(String what, Told told, int target, int path) {
        due.fails(what + ": output(" + target + ", " + path + ")",
                () -> told.builder.output(target, path), STATE);
    }

    private static void noByte(String what, Told told, int i) {
        due.fails(what + ": delta(" + i + ")", () -> told.builder.delta(i), INDEX);
    }

    /**
     * "nothing is kept but the row of all events": what was asked, and in which order, is no matter
     * for what is answered later; only "One EVENT more" changes something.
     */
    private static void nothingElseIsKept() {
        String fresh = Snapshot.of(() -> house().builder);
        String more = Snapshot.of(() -> house().number(1, 4).builder);
        due.is("an event more is seen", fresh.equals(more) ? 1 : 0, 0);
        keptNothing("value", fresh, x -> x.value(2));
        keptNothing("value, failing", fresh, x -> Due.outcome(() -> x.value(3)));
        keptNothing("output", fresh, x -> x.output(5, 2));
        keptNothing("output, failing", fresh, x -> Due.outcome(() -> x.output(6, 2)));
        keptNothing("solve", fresh, PlainBuilder::solve);
        keptNothing("chosen", fresh, x -> x.chosen(3));
        keptNothing("job", fresh, x -> x.job(8, 0));
        keptNothing("ring", fresh, x -> x.ring(0));
        keptNothing("test", fresh, x -> x.test(6));
        keptNothing("test, failing", fresh, x -> x.test(7));
        keptNothing("delta", fresh, x -> x.delta(0));
        keptNothing("delta, failing", fresh, x -> Due.outcome(() -> x.delta(1)));
        keptNothing("event, refused", fresh, x -> x.event(0, 64, 0, 0));
    }

    private static void keptNothing(String what, String fresh, Consumer<PlainBuilder> call) {
        String behind = Snapshot.of(() -> {
            PlainBuilder x = house().builder;
            for (int i = 0; i < 100; i++) {
                call.accept(x);
            }
            return x;
        });
        due.is(what + " keeps nothing", behind.equals(fresh) ? 1 : 0, 1);
    }

    /** "An object is used for at most 512 calls after it has been made" */
    private static void usedFor512Calls() {
        Told told = house();
        PlainBuilder x = told.builder;
        for (int calls = told.count(); calls < 501; calls++) {
            due.is("call " + (calls + 1), x.solve(), 1);
        }
        due.is("call 502", x.event(0, 1, 22, 0), 16);
        due.is("call 503", x.events(), 17);
        due.answers("call 504", () -> x.value(2), 44);
        due.answers("call 505", () -> x.output(5, 2), 44);
        due.is("call 506", x.chosen(3), 7);
        due.is("call 507", x.job(8, 0), 1);
        due.is("call 508", x.ring(0), 4);
        due.is("call 509", x.test(6), 1);
        due.answers("call 510", () -> x.delta(0), -1);
        due.fails("call 511", () -> x.value(3), STATE);
        due.is("call 512", x.solve(), 1);
    }

    /** Promise 1. "No EVENTS." */
    private static void newObject() {
        due.is("events()", new PlainBuilder().events(), 0);
        due.is("the first event's number", new PlainBuilder().event(0, 0, 1, 0), 0);
        Told told = new Told();
        fails("new", told, 0);
        runFails("new", told, 0, 0);
        due.is("solve()", told.builder.solve(), 1);
        due.is("chosen(0)", told.builder.chosen(0), 0);
        due.is("job(0, 0)", told.builder.job(0, 0), -1);
        due.is("ring(0)", told.builder.ring(0), -1);
        due.is("test(0)", told.builder.test(0), -1);
        noByte("new", told, 0);
    }

    /** Promise 1, of two objects: neither has the other's EVENTS. */
    private static void objectsOfTheirOwn() {
        Told one = new Told().number(0, 1);
        Told other = new Told().number(0, 2).number(1, 3);
        due.answers("one", () -> one.builder.value(0), 1);
        due.answers("the other", () -> other.builder.value(0), 2);
        due.is("one", one.builder.events(), 1);
        fails("one", one, 1);
    }

    /** Promise 2. "One EVENT more: its number." */
    private static void oneEventMore() {
        PlainBuilder x = new PlainBuilder();
        for (int number = 0; number < 200; number++) {
            due.is("event", x.event(0, 0, number, 0), number);
        }
        due.answers("all of them are there", () -> x.value(0), 199);
    }

    /** "- 1: there is no such KIND" */
    private static void noSuchKind() {
        PlainBuilder x = new PlainBuilder();
        for (int kind : new int[] {LEAST, -1, 16, MOST}) {
            due.is("kind " + kind, x.event(kind, 0, 0, 0), -1);
        }
        due.is("the least kind", x.event(0, 0, 0, 0), 0);
        due.is("the greatest kind", x.event(15, 0, 0, 0), 1);
    }

    /** "- 2: a, b or c is none that may be there" */
    private static void noneThatMayBeThere() {
        // By kind: the least and the greatest a, b and c; none for what the kind doesn't name.
        // Of 11 a stands at 5 while b is tried, so that b 0 isn't the house.
        int[][] bounds = {
            {0, 63}, {0, 63, 0, 63, 0, 63}, {0, 63, 0, 63, 0, 63}, {0, 63, 0, 63, 0, 63},
            {0, 63, 0, 63, 0, 63}, {0, 15}, {5, 5, 0, 7, 0, 63}, {5, 5, 0, 7, 0, 7},
            {5, 5, 0, 7, 0, 7}, {5, 5, 0, 7, 0, 15}, {0, 5, 1, 9}, {0, 5, 1, 9, -99, 599},
            {0, 15, 0, 15, 1, 3}, {0, 15, 1, 2}, {0, 15, 0, 63, 0, 63}, {0, 1, 0, 255}
        };
        for (int kind = 0; kind <= 15; kind++) {
            int[] row = bounds[kind];
            for (int which = 0; which < row.length / 2; which++) {
                long[] numbers = {row[1], row.length > 2 ? row[3] : 0, row.length > 4 ? row[5] : 0};
                long[] wrong = {row[2 * which] - 1, row[2 * which + 1] + 1, Long.MIN_VALUE,
                    Long.MAX_VALUE, numbers[which] + (1L << 32), numbers[which] - (1L << 32)};
                Told told = new Told().target(5);
                told.event(kind, numbers[0], numbers[1], numbers[2]);
                for (long each : wrong) {
                    numbers[which] = each;
                    due.is("kind " + kind + ", number " + which + " is " + each, told.builder
                            .event(kind, numbers[0], numbers[1], numbers[2]), -2);
                }
                due.is("refused", told.builder.events(), 2);
            }
        }
    }

    /** "(what a KIND doesn't name may be anything" */
    private static void mayBeAnything() {
        long[] any = {Long.MIN_VALUE, -1, 0, 700, Long.MAX_VALUE};
        Told told = new Told();
        for (long each : any) {
            told.event(0, 1, each, each).event(5, 1, each, each).event(10, 1, 1, each)
                    .event(13, 1, 1, each).event(15, 1, 1, each);
        }
        due.is("all are there", told.builder.events(), 25);
    }

    /** "of 6 to 9 the TARGET a must be told, of 9 the TARGET c need not)" */
    private static void mustBeTold() {
        for (int kind = 6; kind <= 9; kind++) {
            PlainBuilder x = new Told().target(1).builder;
            due.is("not told", x.event(kind, 2, 3, 4), -2);
            due.is("c of 9 need not", x.event(kind, 1, 3, 4), 1);
            due.is("told", x.event(5, 2, 0, 0), 2);
            due.is("by now", x.event(kind, 2, 3, 4), 3);
        }
    }

    /** A house with 200 events, among which target 5 is told. */
    private static Told full() {
        Told told = house();
        while (told.count() < 200) {
            told.number(0, 0);
        }
        return told;
    }

    /** "- 4: there are 200." */
    private static void there200() {
        String before = Snapshot.of(() -> full().builder);
        due.is("a key", full().builder.event(0, 1, 5, 0), -4);
        due.is("a target", full().builder.event(5, 1, 0, 0), -4);
        due.is("a step", full().builder.event(6, 5, 0, 0), -4);
        String behind = Snapshot.of(() -> {
            PlainBuilder x = full().builder;
            x.event(0, 1, 5, 0);
            return x;
        });
        due.is("nothing has changed", behind.equals(before) ? 1 : 0, 1);
    }

    /** "The first of these." */
    private static void theFirstOfThese() {
        PlainBuilder x = full().builder;
        due.is("- 1 and - 2 and - 4", x.event(16, -1, -1, -1), -1);
        due.is("- 2 and - 4", x.event(0, 64, 0, 0), -2);
        due.is("- 2 and - 4, not told", x.event(6, 6, 0, 0), -2);
        due.is("- 4 alone", x.event(0, 63, 0, 0), -4);
        due.is("- 1 and - 2", new PlainBuilder().event(-1, -1, -1, -1), -1);
    }

    /** Promise 3. "How many EVENTS there are." */
    private static void howManyEvents() {
        Told told = new Told();
        for (int count = 0; count <= 200; count++) {
            due.is("events()", told.builder.events(), count);
            if (count % 10 == 0) {
                due.is("refused", told.builder.event(0, -1, 0, 0), -2);
                due.is("events() behind that", told.builder.events(), count);
            }
            if (count < 200) {
                told.newByte(count);
            }
        }
        due.is("full", told.builder.event(0, 0, 0, 0), -4);
        due.is("events()", told.builder.events(), 200);
    }

    /** Promise 4. "What a KEY is." */
    private static void whatAKeyIs() {
        Told told = new Told().number(0, Long.MIN_VALUE).number(63, 1L << 40).sum(5, 0, 63);
        due.answers("value(0)", () -> told.builder.value(0), Long.MIN_VALUE);
        due.answers("value(63)", () -> told.builder.value(63), 1L << 40);
        due.answers("value(5)", () -> told.builder.value(5), Long.MIN_VALUE + (1L << 40));
    }

    /** "IllegalStateException: it FAILS, or there is no such KEY." */
    private static void noValue() {
        Told told = new Told().number(0, 1).number(63, 0).quotient(1, 0, 63);
        fails("it fails", told, 1);
        fails("it isn't told", told, 2);
        for (int none : new int[] {LEAST, -1, 64, MOST}) {
            fails("no such key", told, none);
        }
    }

    /** Promise 5. "What a PATH of a TARGET is behind a RUN." */
    private static void whatAPathIs() {
        Told told = new Told().number(0, Long.MAX_VALUE).target(0).write(0, 0, 0).write(0, 7, 0)
                .add(0, 7, 7).target(15).take(15, 7, 0);
        due.answers("output(0, 0)", () -> told.builder.output(0, 0), Long.MAX_VALUE);
        due.answers("output(0, 1)", () -> told.builder.output(0, 1), 0);
        due.answers("output(0, 7)", () -> told.builder.output(0, 7), -2);
        due.answers("output(15, 7)", () -> told.builder.output(15, 7), -2);
        due.answers("output(15, 0)", () -> told.builder.output(15, 0), 0);
    }

    /** "IllegalStateException: it FAILS, or there is no such TARGET or PATH." */
    private static void noOutput() {
        Told told = new Told().target(0).target(15).target(1).write(1, 3, 0);
        runFails("it fails", told, 1, 3);
        runFails("it fails, whichever path", told, 1, 0);
        runFails("it isn't told", told, 2, 0);
        for (int none : new int[] {LEAST, -1, 16, MOST}) {
            runFails("no such target", told, none, 0);
        }
        for (int none : new int[] {LEAST, -1, 8, MOST}) {
            runFails("no such path", told, 0, none);
            runFails("no such path", told, 15, none);
        }
    }

    /** Names 0 to 2 with versions 1 to 9, name 3 with 1 to 4: just 5000 choices. */
    private static Told manyChoices() {
        Told told = new Told();
        for (int version = 1; version <= 9; version++) {
            told.version(0, version).version(1, version).version(2, version)
                    .version(3, Math.min(version, 4));
        }
        return told;
    }

    /** Promise 6. "1: there is a GOOD CHOICE; 0: there is none; - 1: they are NOT TRIED." */
    private static void solved() {
        due.is("a good one", manyChoices().houseWants(0, 9, 9).builder.solve(), 1);
        due.is("none", manyChoices().houseWants(4, 1, 9).builder.solve(), 0);
        due.is("not tried", manyChoices().version(4, 1).builder.solve(), -1);
        due.is("not tried, none would be good", manyChoices().version(4, 1).houseWants(5, 1, 9)
                .builder.solve(), -1);
    }

    /** Promise 7. "The VERSION that the first GOOD CHOICE gives a NAME" */
    private static void chosenVersion() {
        PlainBuilder x = manyChoices().houseWants(1, 1, 8).wants(1, 8, 3, 1, 3).builder;
        int[] wants = {0, 8, 0, 3, 0, 0};
        for (int name = 0; name < 6; name++) {
            due.is("chosen(" + name + ")", x.chosen(name), wants[name]);
        }
        due.is("solve() in between", x.solve(), 1);
        due.is("chosen(1)", x.chosen(1), 8);
    }

    /** "0 for none, without such a CHOICE, when they are NOT TRIED, and of no NAME." */
    private static void chosenNone() {
        Told good = manyChoices().houseWants(0, 1, 9);
        due.is("given", good.builder.chosen(0), 9);
        due.is("none", good.builder.chosen(1), 0);
        for (int none : new int[] {LEAST, -1, 6, MOST}) {
            due.is("of no name", good.builder.chosen(none), 0);
        }
        Told bad = manyChoices().houseWants(0, 1, 9).houseWants(4, 1, 9);
        Told many = manyChoices().houseWants(0, 1, 9).version(4, 1);
        for (int name = 0; name < 6; name++) {
            due.is("without a good one", bad.builder.chosen(name), 0);
            due.is("not tried", many.builder.chosen(name), 0);
        }
    }

    /** Promise 8. "Of JOB i: 0 its STATE, 1 how many JOBS it NEEDS (each as often as told)" */
    private static void ofAJob() {
        PlainBuilder x = new Told().needs(0, 15, 1).needs(0, 15, 1).needs(0, 1, 3).needs(15, 1, 2)
                .result(1, 2).builder;
        due.is("job(0, 0)", x.job(0, 0), 0);
        due.is("job(0, 1)", x.job(0, 1), 3);
        due.is("job(15, 0)", x.job(15, 0), 1);
        due.is("job(15, 1)", x.job(15, 1), 1);
        due.is("job(1, 0)", x.job(1, 0), 4);
        due.is("job(1, 1)", x.job(1, 1), 0);
    }

    /** "NONE if it isn't there, or for another what." */
    private static void noneOfAJob() {
        PlainBuilder x = new Told().needs(0, 15, 1).builder;
        for (int none : new int[] {LEAST, -1, 1, 14, 16, MOST}) {
            due.is("not there: job(" + none + ", 0)", x.job(none, 0), PlainBuilder.NONE);
            due.is("not there: job(" + none + ", 1)", x.job(none, 1), PlainBuilder.NONE);
        }
        for (int what : new int[] {LEAST, -1, 2, MOST}) {
            due.is("another what: job(0, " + what + ")", x.job(0, what), PlainBuilder.NONE);
            due.is("another what: job(1, " + what + ")", x.job(1, what), PlainBuilder.NONE);
        }
    }

    /**
     * Promise 9. "The i-th of the KEYS that are in a RING, from the least on (i from 0 on); NONE if
     * there is none such."
     */
    private static void theIthInARing() {
        PlainBuilder x = new Told().sum(63, 7, 7).sum(7, 0, 63).sum(0, 0, 1).sum(5, 7, 7).builder;
        due.is("ring(0)", x.ring(0), 0);
        due.is("ring(1)", x.ring(1), 7);
        due.is("ring(2)", x.ring(2), 63);
        for (int none : new int[] {LEAST, -1, 3, 63, 64, MOST}) {
            due.is("ring(" + none + ")", x.ring(none), PlainBuilder.NONE);
        }
    }

    /**
     * Promise 10. "TEST t: 1 its KEYS are equal, 0 they aren't, 2 one of them FAILS (b first, then
     * c, in one count of 300); NONE if it isn't told."
     */
    private static void ofATest() {
        Costs costs = new Costs();
        int b = costs.key(100);
        int c = costs.key(200);
        int more = costs.key(201);
        PlainBuilder x = costs.told.number(60, Costs.valueOf(100)).number(61, Costs.valueOf(200))
                .test(0, b, 60).test(15, b, 61).test(1, b, Costs.UNTOLD).test(2, Costs.UNTOLD, b)
                .test(3, b, c).test(4, b, more).test(5, more, b).builder;
        due.is("equal", x.test(0), 1);
        due.is("they aren't", x.test(15), 0);
        due.is("c fails", x.test(1), 2);
        due.is("b fails", x.test(2), 2);
        due.is("300 keys", x.test(3), 0);
        due.is("301 keys", x.test(4), 2);
        due.is("301 keys", x.test(5), 2);
        for (int none : new int[] {LEAST, -1, 6, 14, 16, MOST}) {
            due.is("not told: test(" + none + ")", x.test(none), PlainBuilder.NONE);
        }
    }

    /**
     * Promise 11. "Byte i of the DELTA: the whole new text, or nothing if both texts are the same."
     */
    private static void byteOfTheDelta() {
        Told told = new Told().oldByte(1).oldByte(2).newByte(1).newByte(2).newByte(128);
        due.answers("delta(0)", () -> told.builder.delta(0), 1);
        due.answers("delta(1)", () -> told.builder.delta(1), 2);
        due.answers("delta(2)", () -> told.builder.delta(2), -128);
        told.oldByte(128);
        for (int i = 0; i < 3; i++) {
            noByte("both are the same", told, i);
        }
        told.oldByte(9);
        due.answers("the old one is longer", () -> told.builder.delta(2), -128);
        noByte("the old one is longer", told, 3);
    }

    /** "ArrayIndexOutOfBoundsException: there is none such." */
    private static void noByteOfTheDelta() {
        Told told = new Told();
        noByte("no texts", told, 0);
        noByte("an old text alone", told.oldByte(4), 0);
        told.newByte(5);
        for (int none : new int[] {LEAST, -1, 1, 2, 200, MOST}) {
            noByte("none such", told, none);
        }
        due.answers("delta(0)", () -> told.builder.delta(0), 5);
    }
}
