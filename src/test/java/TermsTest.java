/**
 * The Terms of the document, sentence by sentence in its order: each method stands for the words
 * above it. Together they are all that the Terms say; the other tests go further into each.
 */
public final class TermsTest {
    private static final long LEAST = Long.MIN_VALUE;
    private static final long MOST = Long.MAX_VALUE;
    private static final Class<IllegalStateException> STATE = IllegalStateException.class;

    private static final Due due = new Due();

    public static void main(String[] args) {
        events();
        latestCounts();
        othersAllCount();
        number();
        sumProductQuotient();
        either();
        targetIsTold();
        stepsInOrder();
        writes();
        copies();
        adds();
        takes();
        versions();
        demands();
        needs();
        results();
        jobsThatAreThere();
        tests();
        texts();
        the301stKey();
        workingOut();
        runs();
        failingRuns();
        the41stRun();
        rings();
        choices();
        goodChoices();
        orderOfChoices();
        countOfChoices();
        states();
        justThoseThatMustBe();
        constants();
        due.end("TermsTest");
    }

    private static void value(String what, Told told, int key, long want) {
        due.answers(what + ": value(" + key + ")", () -> told.builder.value(key), want);
    }

    private static void fails(String what, Told told, int key) {
        due.fails(what + ": value(" + key + ")", () -> told.builder.value(key), STATE);
    }

    private static void output(String what, Told told, int target, int path, long want) {
        due.answers(what + ": output(" + target + ", " + path + ")",
                () -> told.builder.output(target, path), want);
    }

    private static void runFails(String what, Told told, int target) {
        due.fails(what + ": output(" + target + ", 0)", () -> told.builder.output(target, 0),
                STATE);
    }

    /** Six digits: the versions that names 0 to 5 are given. */
    private static void chosen(String what, Told told, int solved, String versions) {
        due.is(what + ": solve()", told.builder.solve(), solved);
        for (int name = 0; name < 6; name++) {
            due.is(what + ": chosen(" + name + ")", told.builder.chosen(name),
                    versions.charAt(name) - '0');
        }
    }

    private static void state(String what, Told told, int job, int want) {
        due.is(what + ": job(" + job + ", 0)", told.builder.job(job, 0), want);
    }

    /** "EVENTS, at most 200, numbered from 0, have a KIND and three numbers a, b, c." */
    private static void events() {
        Told told = new Told().number(1, 5).number(2, 3);
        value("one kind", told.sum(3, 1, 2), 3, 8);
        value("another kind", told.product(3, 1, 2), 3, 15);
        value("another a", told.product(4, 2, 2), 3, 15);
        value("another b", told.product(3, 2, 2), 3, 9);
        value("another c", told.product(3, 2, 1), 3, 15);
        while (told.count() < 200) {
            // Told compares the number that each of them gets.
            told.number(0, told.count());
        }
        due.is("the 201st", told.builder.event(0, 0, 0, 0), -4);
        value("the 200th is there", told, 0, 199);
    }

    /** "Of those that TELL the same (a KEY, a JOB's RESULT, a TEST) the latest one counts." */
    private static void latestCounts() {
        Told told = new Told().number(0, 1).number(1, 2);
        value("a key", told.number(2, 7).sum(2, 0, 1), 2, 3);
        value("a key", told.product(2, 0, 1), 2, 2);
        value("a key, the first again", told.number(2, 7), 2, 7);
        state("a result", told.result(4, 1).result(4, 2), 4, 4);
        state("a result, the first again", told.result(4, 1), 4, 3);
        due.is("a test", told.test(5, 0, 0).test(5, 0, 1).builder.test(5), 0);
        due.is("a test, the first again", told.test(5, 0, 0).builder.test(5), 1);
    }

    /** What else is told doesn't take the place of what was: all of it counts. */
    private static void othersAllCount() {
        Told told = new Told().number(0, 3).target(1).write(1, 2, 0).add(1, 2, 2).add(1, 2, 2);
        output("steps of one path", told, 1, 2, 12);
        told.version(0, 4).version(0, 2).version(0, 3).houseWants(0, 3, 9).houseWants(0, 1, 3);
        chosen("versions and demands", told, 1, "300000");
        told.needs(6, 7, 1).needs(6, 7, 2).needs(6, 8, 3).result(7, 2).result(8, 1);
        state("needs", told, 6, 2);
        told.newByte(9).newByte(9);
        due.answers("bytes: delta(1)", () -> told.builder.delta(1), 9);
    }

    /** "KEYS 0 .. 63: 0 KEY a is the NUMBER b." */
    private static void number() {
        for (long number : new long[] {LEAST, -1, 0, 1, 1L << 40, MOST}) {
            Told told = new Told().event(0, 0, number, 8).event(0, 63, number, LEAST);
            value("the least key", told, 0, number);
            value("the greatest key", told, 63, number);
        }
        due.is("no key", new PlainBuilder().event(0, 64, 1, 1), -2);
        due.is("no key", new PlainBuilder().event(0, -1, 1, 1), -2);
    }

    /**
     * "1 it is KEYS b and c together, 2 their product (both modulo 2 to the 64), 3 KEY b divided
     * by KEY c (towards 0; the least number by - 1 is itself)."
     */
    private static void sumProductQuotient() {
        threeOf(20, -6, 14, -120, -3);
        threeOf(-20, 6, -14, -120, -3);
        threeOf(-20, -6, -26, 120, 3);
        threeOf(6, 20, 26, 120, 0);
        threeOf(MOST, 2, LEAST + 1, -2, MOST / 2);
        threeOf(LEAST, -1, MOST, LEAST, LEAST);
        threeOf(1L << 32, 1L << 32, 1L << 33, 0, 1);
    }

    private static void threeOf(long b, long c, long sum, long product, long quotient) {
        Told told = new Told().number(0, b).number(1, c).sum(2, 0, 1).product(3, 0, 1)
                .quotient(4, 0, 1);
        value(b + " and " + c, told, 2, sum);
        value(b + " and " + c, told, 3, product);
        value(b + " and " + c, told, 4, quotient);
    }

    /** "4 it is KEY b, or, if that FAILS, KEY c." */
    private static void either() {
        Told told = new Told().number(0, 5).number(1, 6).either(2, 0, 1).either(3, 63, 1)
                .either(4, 0, 63).either(5, 62, 63);
        value("b", told, 2, 5);
        value("b fails", told, 3, 6);
        value("c would fail", told, 4, 5);
        fails("both fail", told, 5);
    }

    /** "TARGETS 0 .. 15, with PATHS 0 .. 7: 5 TARGET a is told, without STEPS (also if it was)." */
    private static void targetIsTold() {
        for (int target = 0; target <= 15; target += 15) {
            Told told = new Told().number(0, 9);
            runFails("not told", told, target);
            told.target(target);
            output("told", told, target, 0, 0);
            output("the greatest path", told, target, 7, 0);
            output("a step", told.write(target, 7, 0), target, 7, 9);
            output("told again", told.target(target), target, 7, 0);
        }
        due.is("no target", new PlainBuilder().event(5, 16, 0, 0), -2);
        due.is("no target", new PlainBuilder().event(5, -1, 0, 0), -2);
    }

    /** "STEPS of a TARGET that is told, in the order of the EVENTS" */
    private static void stepsInOrder() {
        Told told = new Told().number(0, 2).number(1, 5);
        due.is("not told", told.builder.event(6, 3, 0, 0), -2);
        told.target(3).write(3, 0, 0).copy(3, 1, 0).write(3, 0, 1).target(4).copy(3, 2, 0);
        output("copied first", told, 3, 1, 2);
        output("written anew", told, 3, 0, 5);
        output("copied last", told, 3, 2, 5);
        output("steps of another one", told, 4, 0, 0);
        told.number(3, 8).sum(3, 0, 0).version(3, 1).wants(3, 1, 5, 1, 9).needs(3, 3, 1)
                .result(3, 2).test(3, 0, 0);
        output("other events with its number are none", told, 3, 0, 5);
        output("texts have numbers, too", new Told().number(0, 6).target(1).newByte(0)
                .write(1, 0, 0).newByte(1), 1, 0, 6);
    }

    /** "6 TARGET a WRITES KEY c to PATH b" */
    private static void writes() {
        Told told = new Told().number(0, 2).number(63, 7).target(3).write(3, 7, 63).write(3, 0, 0);
        output("key 63 to path 7", told, 3, 7, 7);
        output("key 0 to path 0", told, 3, 0, 2);
        output("the key as it is when it runs", told.number(63, 8), 3, 7, 8);
        due.is("no path", told.builder.event(6, 3, 8, 0), -2);
        due.is("no key", told.builder.event(6, 3, 0, 64), -2);
    }

    /** "7 TARGET a COPIES: PATH b becomes what PATH c is" */
    private static void copies() {
        Told told = new Told().number(0, 2).number(1, 3).target(3).write(3, 0, 0).write(3, 7, 1);
        output("7 from 0", told.copy(3, 7, 0), 3, 7, 2);
        output("0 is what it was", told, 3, 0, 2);
        output("from one that is 0", told.copy(3, 0, 5), 3, 0, 0);
        due.is("no path", told.builder.event(7, 3, 0, 8), -2);
        due.is("no path", told.builder.event(7, 3, 8, 0), -2);
    }

    /** "8 it ADDS: PATH b becomes what it was and what PATH c is together (modulo 2 to the 64)" */
    private static void adds() {
        Told told = new Told().number(0, MOST).number(1, 3).target(3).write(3, 0, 0).write(3, 7, 1);
        output("7 and 0", told.add(3, 7, 0), 3, 7, LEAST + 2);
        output("0 is what it was", told, 3, 0, MOST);
        output("7 and itself", told.add(3, 7, 7), 3, 7, 4);
        due.is("no path", told.builder.event(8, 3, 0, 8), -2);
        due.is("no path", told.builder.event(8, 3, 8, 0), -2);
    }

    /** "9 it TAKES PATH b of TARGET c: its own PATH b becomes that." */
    private static void takes() {
        Told told = new Told().number(0, 2).number(1, 3).target(3).write(3, 6, 0).write(3, 7, 0)
                .target(15).write(15, 6, 1).write(15, 7, 1).take(3, 7, 15);
        output("taken", told, 3, 7, 3);
        output("not taken", told, 3, 6, 2);
        output("the other one's", told, 15, 7, 3);
        due.is("no path", told.builder.event(9, 3, 8, 15), -2);
        due.is("no target", told.builder.event(9, 3, 0, 16), -2);
    }

    /** "NAMES 0 .. 5 with VERSIONS 1 .. 9: 10 NAME a has VERSION b (again, too)." */
    private static void versions() {
        Told told = new Told().houseWants(0, 1, 9).houseWants(5, 1, 9);
        chosen("no versions", told, 0, "000000");
        chosen("the least and the greatest", told.version(0, 1).version(5, 9), 1, "100009");
        chosen("again", told.version(0, 1).version(5, 9), 1, "100009");
        due.is("no name", told.builder.event(10, 6, 1, 0), -2);
        due.is("no version", told.builder.event(10, 0, 0, 0), -2);
        due.is("no version", told.builder.event(10, 0, 10, 0), -2);
    }

    /**
     * "11 a DEMAND: VERSION b of NAME a (b 0: the house; a is 0 then) wants NAME c / 100 in a
     * VERSION from c / 10 % 10 to c % 10 (c / 100 0 .. 5)."
     */
    private static void demands() {
        Told told = new Told();
        for (int version = 1; version <= 9; version++) {
            told.version(4, version).version(5, version);
        }
        chosen("the house wants 4 from 3 to 6", told.event(11, 0, 0, 436), 1, "000060");
        chosen("6 of 4 wants 5 from 2 to 8", told.event(11, 4, 6, 528), 1, "000068");
        chosen("8 of 5 wants 4 from 1 to 5", told.event(11, 5, 8, 415), 1, "000067");
        chosen("the house wants 5 from 0 to 1", told.event(11, 0, 0, 501), 1, "000051");
        due.is("house of another name", told.builder.event(11, 4, 0, 436), -2);
        due.is("no version", told.builder.event(11, 4, 10, 436), -2);
        due.is("no name", told.builder.event(11, 6, 1, 436), -2);
        due.is("wants no name", told.builder.event(11, 0, 0, 600), -2);
        due.is("wants no name", told.builder.event(11, 0, 0, -100), -2);
        chosen("wants the least", new Told().version(0, 1).event(11, 0, 0, 11), 1, "100000");
        chosen("wants the most", new Told().version(5, 9).event(11, 0, 0, 599), 1, "000009");
    }

    /** "JOBS 0 .. 15: 12 JOB a NEEDS JOB b to have PASSED (c 1), FAILED (2) or either (3)." */
    private static void needs() {
        int[] wants = {1, 2, 2, 1, 1, 1};
        for (int i = 0; i < 6; i++) {
            int need = 1 + i / 2;
            int result = 1 + i % 2;
            String what = "need " + need + ", result " + result;
            state(what, new Told().needs(0, 15, need).result(15, result), 0, wants[i]);
            state(what, new Told().needs(15, 0, need).result(0, result), 15, wants[i]);
        }
        due.is("no job", new PlainBuilder().event(12, 16, 0, 1), -2);
        due.is("no job", new PlainBuilder().event(12, 0, 16, 1), -2);
        due.is("no need", new PlainBuilder().event(12, 0, 0, 0), -2);
        due.is("no need", new PlainBuilder().event(12, 0, 0, 4), -2);
    }

    /** "13 the RESULT of JOB a: b 1 it PASSED, 2 it FAILED." */
    private static void results() {
        state("passed", new Told().result(0, 1), 0, 3);
        state("failed", new Told().result(15, 2), 15, 4);
        due.is("no result", new PlainBuilder().event(13, 0, 0, 0), -2);
        due.is("no result", new PlainBuilder().event(13, 0, 3, 0), -2);
        due.is("no job", new PlainBuilder().event(13, 16, 1, 0), -2);
    }

    /** "(A JOB is there if one of these names it, as a or b of 12, or as a of 13.)" */
    private static void jobsThatAreThere() {
        Told told = new Told().needs(1, 2, 3).event(13, 4, 1, 5);
        int[] needs = {-1, 1, 0, -1, 0, -1, -1};
        for (int job = 0; job < needs.length; job++) {
            due.is("job(" + job + ", 1)", told.builder.job(job, 1), needs[job]);
        }
    }

    /** "14 TEST a (0 .. 15): KEYS b and c are to be equal." */
    private static void tests() {
        Told told = new Told().number(0, 1).number(62, 1).number(63, 2).test(0, 0, 62)
                .test(15, 0, 63).test(1, 63, 0).test(2, 62, 0);
        due.is("equal", told.builder.test(0), 1);
        due.is("not equal", told.builder.test(15), 0);
        due.is("not equal", told.builder.test(1), 0);
        due.is("equal", told.builder.test(2), 1);
        due.is("no test", told.builder.event(14, 16, 0, 0), -2);
        due.is("no key", told.builder.event(14, 0, 64, 0), -2);
        due.is("no key", told.builder.event(14, 0, 0, 64), -2);
    }

    /** "15 the text a (0 the old, 1 the new one) gets one byte more, b (0 .. 255)." */
    private static void texts() {
        Told told = new Told().event(15, 0, 7, 0).event(15, 1, 0, 0).event(15, 1, 255, 0);
        due.answers("the least byte", () -> told.builder.delta(0), 0);
        due.answers("the greatest byte", () -> told.builder.delta(1), -1);
        due.fails("no third", () -> told.builder.delta(2), ArrayIndexOutOfBoundsException.class);
        due.is("no text", told.builder.event(15, 2, 0, 0), -2);
        due.is("no text", told.builder.event(15, -1, 0, 0), -2);
        due.is("no byte", told.builder.event(15, 1, 256, 0), -2);
        due.is("no byte", told.builder.event(15, 1, -1, 0), -2);
    }

    /**
     * "To WORK OUT a KEY: the 301st KEY that is worked out since value() or test() was called, or
     * since the STEP of a TARGET began, lets all of that FAIL at once (whatever KIND 4 says)."
     */
    private static void the301stKey() {
        Costs costs = new Costs();
        int most = costs.key(300);
        int half = costs.key(150);
        int one = costs.number(4);
        int near = costs.key(298);
        costs.told.either(51, Costs.UNTOLD, near).either(52, 51, one).either(53, 53, near)
                .either(54, 53, one);
        value("300 keys, one of which isn't told", costs.told, 51, Costs.valueOf(298));
        fails("301 keys, one of which isn't told", costs.told, 52);
        value("300 keys, one of them twice", costs.told, 53, Costs.valueOf(298));
        fails("301 keys, one of them twice", costs.told, 54);
        costs.told.either(50, most, one).test(0, half, half).test(1, most, one).test(2, one, most)
                .target(0).write(0, 0, most).write(0, 1, most).target(1).write(1, 0, 50);
        value("300 keys", costs.told, most, Costs.valueOf(300));
        fails("301 keys, of KIND 4", costs.told, 50);
        value("300 keys, counted anew", costs.told, most, Costs.valueOf(300));
        due.is("300 keys", costs.told.builder.test(0), 1);
        due.is("301 keys, b first", costs.told.builder.test(1), 2);
        due.is("301 keys, c first", costs.told.builder.test(2), 2);
        output("300 keys in each step", costs.told, 0, 1, Costs.valueOf(300));
        runFails("301 keys in a step, of KIND 4", costs.told, 1);
    }

    /**
     * "Otherwise it FAILS if it isn't told, or is being worked out; else by its KIND: KEY b first,
     * then (of 4 only if need be) KEY c; FAILS if one of them does (but for b of 4), or it divides
     * by 0."
     */
    private static void workingOut() {
        Told told = new Told().number(0, 8).number(1, 0).sum(2, 2, 0).either(3, 3, 0)
                .quotient(4, 0, 1).quotient(5, 1, 0);
        fails("not told", told, 9);
        fails("is being worked out", told, 2);
        value("of KIND 4, is being worked out", told, 3, 8);
        fails("divides by 0", told, 4);
        value("0 divided", told, 5, 0);
        for (int kind = 1; kind <= 4; kind++) {
            told.event(kind, 10, 9, 0).event(kind, 11, 0, 9);
            if (kind < 4) {
                fails("b of " + kind + " fails", told, 10);
                fails("c of " + kind + " fails", told, 11);
            } else {
                value("b of 4 fails", told, 10, 8);
                value("c of 4 need not be", told, 11, 8);
            }
        }
        Costs costs = new Costs();
        int dear = costs.key(300);
        costs.told.number(61, 3).either(60, 61, dear).either(59, Costs.UNTOLD, dear)
                .sum(58, Costs.UNTOLD, dear).either(57, 58, 61).sum(56, dear, Costs.UNTOLD)
                .either(55, 56, 61);
        value("c of 4 is not needed", costs.told, 60, 3);
        fails("c of 4 is needed", costs.told, 59);
        value("b first: it fails before c goes past 300", costs.told, 57, 3);
        fails("b first: it goes past 300", costs.told, 55);
    }

    /** "A TARGET RUNS: its PATHS are 0 at first; its STEPS are done in their order." */
    private static void runs() {
        Told told = new Told().number(0, 6).target(2).copy(2, 1, 0).write(2, 0, 0).add(2, 2, 0);
        for (int time = 0; time < 3; time++) {
            output("0 at first", told, 2, 1, 0);
            output("0 and 6", told, 2, 2, 6);
            output("no step", told, 2, 3, 0);
        }
    }

    /**
     * "It FAILS if it isn't told, or is running, if a KEY that it WRITES FAILS, or a TARGET that it
     * TAKES from, which RUNS for that anew, FAILS."
     */
    private static void failingRuns() {
        Told told = new Told().number(0, 6).target(0).target(1).target(2).target(3).take(0, 1, 0)
                .write(1, 1, 9).take(2, 1, 9).take(3, 1, 1);
        runFails("not told", told, 9);
        runFails("is running", told, 0);
        runFails("a key fails", told, 1);
        runFails("one that it takes from isn't told", told, 2);
        runFails("one that it takes from fails", told, 3);
        told.number(9, 4).target(9).add(9, 1, 2).write(9, 2, 9).take(2, 2, 9).take(2, 1, 9);
        output("it runs anew", told, 2, 1, 0);
        output("as it is told by now", told, 3, 1, 4);
        runFails("still running", told.target(9).take(9, 0, 2), 9);
    }

    /** "The 41st RUN since output() was called lets all FAIL at once." */
    private static void the41stRun() {
        Costs costs = new Costs();
        int most = costs.target(40);
        int tooMany = costs.target(41);
        for (int time = 0; time < 2; time++) {
            output("40 runs", costs.told, most, 0, 0);
            runFails("41 runs", costs.told, tooMany);
        }
    }

    /**
     * "A KEY is in a RING if one comes from it back to it by going from a KEY to those that it
     * names as b and c (of KINDS 1 to 4; also to such as aren't told)."
     */
    private static void rings() {
        for (int kind = 1; kind <= 4; kind++) {
            Told told = new Told().event(0, 7, 7, 7).event(kind, 9, 20, 5).event(kind, 5, 4, 20)
                    .event(kind, 3, 9, 9);
            due.is("to such as aren't told", told.builder.ring(0), -1);
            told.event(kind, 4, 9, 9);
            due.is("back again", told.builder.ring(0), 4);
            due.is("back again", told.builder.ring(1), 5);
            due.is("back again", told.builder.ring(2), 9);
            due.is("those that lead there aren't", told.builder.ring(3), -1);
            told.event(kind, 20, 20, 7);
            due.is("straight", told.builder.ring(3), 20);
            due.is("no more", told.builder.ring(4), -1);
            told.event(kind, 30, 0, 7).event(kind, 0, 7, 63).event(kind, 63, 30, 7);
            due.is("over the least key", told.builder.ring(0), 0);
            due.is("over both", told.builder.ring(5), 30);
            due.is("over the greatest key", told.builder.ring(6), 63);
        }
    }

    /** "A CHOICE gives each NAME one of its VERSIONS, or none." */
    private static void choices() {
        Told told = new Told().version(0, 4).version(3, 2).version(3, 6).houseWants(3, 1, 9);
        chosen("one of its versions, or none", told, 1, "000600");
        chosen("not of another name", told.houseWants(3, 3, 5), 0, "000000");
    }

    /**
     * "It is GOOD if each DEMAND of the house, and of each VERSION that is given, is kept: the NAME
     * that it wants is given a VERSION in its range."
     */
    private static void goodChoices() {
        Told told = new Told().version(1, 5).version(1, 6).version(2, 3).wants(1, 6, 2, 4, 9);
        chosen("of one that isn't given", told, 1, "000000");
        chosen("of the house", told.houseWants(1, 1, 9), 1, "050000");
        chosen("of one that is given", told.version(2, 4), 1, "064000");
        chosen("none is in no range", told.wants(1, 6, 0, 0, 9), 1, "050000");
        chosen("each of the house", told.houseWants(1, 6, 6), 0, "000000");
        for (int name = 0; name < 6; name++) {
            int other = 5 - name;
            Told two = new Told().version(name, 9).version(other, 4).houseWants(name, 9, 9)
                    .wants(name, 9, other, 5, 9);
            due.is("of each name", two.builder.solve(), 0);
            due.is("what it wants is there", two.version(other, 5).builder.solve(), 1);
            due.is("what it wants is given", two.builder.chosen(other), 5);
        }
    }

    /**
     * "CHOICES are tried in an order: NAME 0 counts most, then 1 and so on; none comes first, then
     * the greatest VERSION down to the least."
     */
    private static void orderOfChoices() {
        Told told = new Told();
        for (int name = 0; name < 6; name++) {
            told.version(name, 2).version(name, 1).version(name, 3);
        }
        chosen("none", told, 1, "000000");
        told.houseWants(4, 1, 3).houseWants(5, 1, 3);
        chosen("the greatest", told, 1, "000033");
        chosen("4 counts more than 5", told.wants(4, 3, 5, 1, 2), 1, "000032");
        chosen("down to the least", told.wants(4, 3, 5, 1, 1), 1, "000031");
        chosen("3 counts more than 4", told.wants(4, 3, 3, 1, 3), 1, "000023");
        told.wants(4, 2, 0, 1, 3).wants(4, 1, 1, 1, 3);
        chosen("0, 1 and 2 count more than 3", told, 1, "000331");
    }

    /**
     * "There are as many CHOICES as the product, over all NAMES, of how many VERSIONS each has and
     * one; with more than 5000 they are NOT TRIED."
     */
    private static void countOfChoices() {
        Told told = new Told().version(4, 9).houseWants(4, 9, 9);
        for (int version = 1; version <= 9; version++) {
            told.version(0, version).version(5, version);
        }
        for (int version = 1; version <= 4; version++) {
            told.version(2, version).version(3, version);
        }
        chosen("10 * 5 * 5 * 2 * 10 are 5000", told, 1, "000090");
        chosen("told again", told.version(2, 4).version(4, 9), 1, "000090");
        chosen("10 * 6 * 5 * 2 * 10 are 6000", told.version(2, 5), -1, "000000");
        Told near = new Told().houseWants(0, 1, 1);
        int[] most = {6, 0, 7, 8, 9, 0};
        for (int name = 0; name < 6; name++) {
            for (int version = 1; version <= most[name]; version++) {
                near.version(name, version);
            }
        }
        chosen("7 * 8 * 9 * 10 are 5040", near, -1, "000000");
    }

    /**
     * "A JOB's STATE: 3 PASSED, 4 FAILED by its RESULT; without one: 2 SKIPPED if a JOB that it
     * NEEDS is SKIPPED or has another RESULT than it needs; else 0 it WAITS if one that it NEEDS
     * has no RESULT; else 1 READY."
     */
    private static void states() {
        Told told = new Told().needs(0, 1, 1).needs(0, 2, 2).needs(3, 0, 3);
        state("none has a result", told, 0, 0);
        state("needs nothing", told, 1, 1);
        state("one has no result", told.result(1, 1), 0, 0);
        state("all as needed", told.result(2, 2), 0, 1);
        state("one has no result", told, 3, 0);
        state("another than it needs", told.result(1, 2), 0, 2);
        state("needs one that is skipped", told, 3, 2);
        state("another than it needs, the other has none", new Told().needs(0, 1, 1)
                .needs(0, 2, 2).result(2, 1), 0, 2);
        state("passed, in spite of its needs", told.result(0, 1), 0, 3);
        state("as needed", told, 3, 1);
        state("failed, in spite of its needs", told.result(0, 2), 0, 4);
        state("either", told, 3, 1);
    }

    /**
     * "(SKIPPED are just those that must be: JOBS without RESULTS that NEED themselves, straight or
     * by others, WAIT, unless one of them is SKIPPED by another need.)"
     */
    private static void justThoseThatMustBe() {
        Told told = new Told().needs(0, 0, 1).needs(1, 2, 2).needs(2, 3, 3).needs(3, 1, 1);
        for (int job = 0; job <= 3; job++) {
            state("needs itself", told, job, 0);
        }
        told.needs(2, 4, 1).needs(0, 4, 2).result(4, 2);
        state("another need, which is met", told, 0, 0);
        for (int job = 1; job <= 3; job++) {
            state("one is skipped by another need", told, job, 2);
        }
        state("a result ends it", told.result(2, 2), 1, 1);
        state("and who needs that one waits", told, 3, 0);
    }

    /** "The constants: NONE = -1: None." */
    private static void constants() {
        due.is("NONE", PlainBuilder.NONE, -1);
    }
}
