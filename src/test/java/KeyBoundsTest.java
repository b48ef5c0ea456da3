import java.math.BigInteger;

/**
 * The bounds of promises 4, 9 and 10 and of the KEYS in Terms. Each method stands for the words of
 * the document above it.
 */
public final class KeyBoundsTest {
    private static final long LEAST = Long.MIN_VALUE;
    private static final long MOST = Long.MAX_VALUE;
    private static final long[] EDGES = {LEAST, LEAST + 1, LEAST / 2, -(1L << 32), -3, -2, -1, 0, 1,
        2, 3, (1L << 31) - 1, 1L << 31, 1L << 32, MOST / 2, MOST / 2 + 1, MOST - 1, MOST};

    private static final Due due = new Due();

    public static void main(String[] args) {
        leastAndMostKey();
        anyNumber();
        moduloAndTowards0();
        leastByMinus1();
        latestKeyCounts();
        latestTestCounts();
        noSuchKey();
        failsIfNotTold();
        failsIfBeingWorkedOut();
        failsIfItDividesBy0();
        failsIfOneOfThemDoes();
        secondKeyOnlyIfNeedBe();
        the301stKeyOfAValue();
        the301stKeyOfATest();
        whateverKind4Says();
        every301stKeyCounts();
        countsOfTheirOwn();
        theIthInARing();
        ringsOfEverySize();
        waysOverKeysThatAreNotTold();
        testsFrom0To15();
        equalToTheLastBit();
        due.end("KeyBoundsTest");
    }

    private static void is(String what, Told told, int key, long want) {
        due.answers(what + ": value(" + key + ")", () -> told.builder.value(key), want);
    }

    private static void fails(String what, Told told, int key) {
        due.fails(what + ": value(" + key + ")", () -> told.builder.value(key),
                IllegalStateException.class);
    }

    /** "KEYS 0 .. 63", as a, b and c */
    private static void leastAndMostKey() {
        long[] wants = {0, 7 + 3, 7 * 3, 7 / 3, 7};
        for (int kind = 1; kind <= 4; kind++) {
            is("kind " + kind, new Told().number(63, 7).number(1, 3).event(kind, 0, 63, 1), 0,
                    wants[kind]);
            is("kind " + kind, new Told().number(0, 7).number(62, 3).event(kind, 63, 0, 62), 63,
                    wants[kind]);
            is("kind " + kind, new Told().number(1, 7).number(0, 3).event(kind, 63, 1, 0), 63,
                    wants[kind]);
            is("kind " + kind, new Told().number(1, 7).number(63, 3).event(kind, 0, 1, 63), 0,
                    wants[kind]);
        }
        Told all = new Told();
        for (int key = 0; key < 64; key++) {
            all.number(key, 1000 + key);
        }
        for (int key = 0; key < 64; key++) {
            is("each has its own", all, key, 1000 + key);
        }
    }

    /** "0 KEY a is the NUMBER b" */
    private static void anyNumber() {
        for (long number : EDGES) {
            for (long c : EDGES) {
                is("number " + number, new Told().event(0, 9, number, c), 9, number);
            }
        }
    }

    /** "both modulo 2 to the 64", "towards 0" */
    private static void moduloAndTowards0() {
        for (long left : EDGES) {
            for (long right : EDGES) {
                Told told = new Told().number(0, left).number(1, right).sum(2, 0, 1)
                        .product(3, 0, 1).quotient(4, 0, 1);
                BigInteger b = BigInteger.valueOf(left);
                BigInteger c = BigInteger.valueOf(right);
                String what = left + " and " + right;
                is(what, told, 2, b.add(c).longValue());
                is(what, told, 3, b.multiply(c).longValue());
                if (right == 0) {
                    fails(what, told, 4);
                } else {
                    is(what, told, 4, b.divide(c).longValue());
                }
            }
        }
    }

    /** "the least number by - 1 is itself" */
    private static void leastByMinus1() {
        Told told = new Told().number(0, LEAST).number(1, -1).quotient(2, 0, 1)
                .number(3, LEAST + 1).quotient(4, 3, 1).number(5, 1).quotient(6, 0, 5)
                .number(7, -2).quotient(8, 0, 7);
        is("the least by - 1", told, 2, LEAST);
        is("one more than the least by - 1", told, 4, MOST);
        is("the least by 1", told, 6, LEAST);
        is("the least by - 2", told, 8, 1L << 62);
    }

    /** "Of those that TELL the same (a KEY ..) the latest one counts." */
    private static void latestKeyCounts() {
        Told told = new Told().number(0, 10).number(1, 4);
        long[] wants = {4, 14, 40, 2, 10};
        for (int before = 0; before <= 4; before++) {
            for (int kind = 0; kind <= 4; kind++) {
                told.event(before, 2, before == 0 ? 99 : 1, 1).event(kind, 2, kind == 0 ? 4 : 0, 1);
                is("kind " + kind + " behind " + before, told, 2, wants[kind]);
            }
        }
        while (told.count() < 199) {
            told.number(3, told.count());
        }
        is("the last but one of 200", told, 3, 198);
        is("the last of 200", told.number(3, -3), 3, -3);
    }

    /** "Of those that TELL the same (.. a TEST) the latest one counts." */
    private static void latestTestCounts() {
        Told told = new Told().number(0, 1).number(1, 2).test(3, 0, 0);
        due.is("equal", told.builder.test(3), 1);
        due.is("the latest", told.test(3, 0, 1).builder.test(3), 0);
        due.is("a key is told anew", told.number(1, 1).builder.test(3), 1);
        while (told.count() < 199) {
            told.test(3, 0, 1);
        }
        due.is("the last of 200", told.test(3, 0, 63).builder.test(3), 2);
    }

    /** "IllegalStateException: it FAILS, or there is no such KEY." */
    private static void noSuchKey() {
        Told all = new Told();
        for (int key = 0; key < 64; key++) {
            all.number(key, key);
        }
        int[] none = {-1, -2, -64, 64, 65, 128, 256, Integer.MIN_VALUE, Integer.MIN_VALUE + 1,
            Integer.MAX_VALUE};
        for (int key : none) {
            fails("no such key", all, key);
        }
        is("the least", all, 0, 0);
        is("the most", all, 63, 63);
    }

    /** "it FAILS if it isn't told" */
    private static void failsIfNotTold() {
        for (int untold = 0; untold < 64; untold++) {
            Told told = new Told();
            for (int key = 0; key < 64; key++) {
                if (key != untold) {
                    told.number(key, 7);
                }
            }
            fails("all others are told", told, untold);
            is("another", told, 63 - untold, 7);
            is("told", told.number(untold, 8), untold, 8);
        }
    }

    /** "or is being worked out" */
    private static void failsIfBeingWorkedOut() {
        for (int size = 1; size <= 62; size++) {
            Told told = new Told().number(63, 2);
            for (int key = 0; key < size; key++) {
                told.sum(key, (key + 1) % size, 63);
            }
            fails("a ring of " + size, told, 0);
            fails("a ring of " + size, told, size - 1);
            // One is no longer being worked out when it is worked out a second time.
            told.number(size - 1, 5).sum(62, 0, 0);
            is("a chain of " + size, told, 62, 2 * (5 + 2L * (size - 1)));
            told.either(size - 1, 0, 63);
            is("a ring of " + size + " with an either", told, 0, 2L * size);
        }
    }

    /** "or it divides by 0" */
    private static void failsIfItDividesBy0() {
        for (long number : EDGES) {
            Told told = new Told().number(0, number).number(1, 0).quotient(2, 0, 1).either(3, 2, 0);
            fails(number + " by 0", told, 2);
            is("either that or " + number, told, 3, number);
            Told small = new Told().number(0, number).number(1, 1).quotient(2, 0, 1);
            is(number + " by 1", small, 2, number);
        }
        // 0 that came about by a wrap-around.
        Told told = new Told().number(0, LEAST).sum(1, 0, 0).quotient(2, 0, 1);
        fails("by 0 modulo 2 to the 64", told, 2);
    }

    /** "FAILS if one of them does (but for b of 4)" */
    private static void failsIfOneOfThemDoes() {
        for (int kind = 1; kind <= 4; kind++) {
            Told told = new Told().number(0, 6).event(kind, 1, 40, 0).event(kind, 2, 0, 40)
                    .event(kind, 3, 40, 41);
            if (kind == 4) {
                is("b of 4 fails", told, 1, 6);
                is("c of 4 would fail", told, 2, 6);
            } else {
                fails("b of " + kind + " fails", told, 1);
                fails("c of " + kind + " fails", told, 2);
            }
            fails("b and c of " + kind + " fail", told, 3);
        }
    }

    /** "KEY b first, then (of 4 only if need be) KEY c" */
    private static void secondKeyOnlyIfNeedBe() {
        Costs costs = new Costs();
        int dear = costs.key(300);
        int good = costs.number(8);
        costs.told.either(50, good, dear).either(51, Costs.UNTOLD, dear).sum(52, good, dear);
        is("c is past the limit, but not needed", costs.told, 50, 8);
        fails("c is past the limit and needed", costs.told, 51);
        fails("c of 1 is always needed", costs.told, 52);
    }

    /** "the 301st KEY that is worked out since value() .. was called" */
    private static void the301stKeyOfAValue() {
        for (int cost = 1; cost <= 700; cost++) {
            Costs costs = new Costs();
            int key = costs.key(cost);
            if (cost <= 300) {
                is(cost + " keys", costs.told, key, Costs.valueOf(cost));
            } else {
                fails(cost + " keys", costs.told, key);
            }
        }
    }

    /** "since .. test() was called"; "b first, then c, in one count of 300" */
    private static void the301stKeyOfATest() {
        for (int left = 1; left <= 301; left++) {
            for (int all = 300; all <= 301; all++) {
                int right = all - left;
                Costs costs = new Costs();
                int b = costs.key(left);
                int c = right < 1 ? b : costs.key(right);
                costs.told.test(0, b, c);
                int want = Costs.valueOf(left) == Costs.valueOf(Math.max(right, 1)) ? 1 : 0;
                due.is(left + " and " + right + " keys", costs.told.builder.test(0),
                        all > 300 || right < 1 ? 2 : want);
            }
        }
    }

    /** "lets all of that FAIL at once (whatever KIND 4 says)" */
    private static void whateverKind4Says() {
        for (int cost = 290; cost <= 310; cost++) {
            Costs costs = new Costs();
            int key = costs.key(cost);
            int other = costs.number(-5);
            costs.told.either(60, key, other).either(61, 60, other).sum(62, 61, other);
            expect(cost + " keys, either", costs.told, 60, cost + 1, Costs.valueOf(cost));
            expect(cost + " keys, two eithers", costs.told, 61, cost + 2, Costs.valueOf(cost));
            expect(cost + " keys, two eithers and 2", costs.told, 62, cost + 4,
                    Costs.valueOf(cost) - 5);
        }
        for (int cost = 290; cost <= 310; cost++) {
            Costs costs = new Costs();
            int key = costs.failingKey(cost);
            int other = costs.number(-5);
            costs.told.either(60, key, other).either(61, 60, other);
            fails(cost + " keys that fail", costs.told, key);
            expect(cost + " keys that fail, either", costs.told, 60, cost + 2, -5);
            expect(cost + " keys that fail, two eithers", costs.told, 61, cost + 3, -5);
        }
    }

    private static void expect(String what, Told told, int key, int cost, long want) {
        if (cost <= 300) {
            is(what, told, key, want);
        } else {
            fails(what, told, key);
        }
    }

    /** Whatever the 301st KEY is: a number, not told, being worked out, or dividing by 0. */
    private static void every301stKeyCounts() {
        for (int cost = 295; cost <= 303; cost++) {
            Costs costs = new Costs();
            int key = costs.key(cost);
            int zero = costs.number(0);
            costs.told.sum(57, key, zero).sum(58, key, 59).either(59, Costs.UNTOLD, zero)
                    .sum(60, key, 61).either(61, 61, zero).quotient(56, zero, zero)
                    .either(55, 56, zero).sum(54, key, 55);
            long want = Costs.valueOf(cost);
            expect("a number", costs.told, 57, cost + 2, want);
            expect("not told", costs.told, 58, cost + 4, want);
            expect("being worked out", costs.told, 60, cost + 4, want);
            expect("divides by 0", costs.told, 54, cost + 6, want);
        }
    }

    /** Each call has a count of its own, also behind one that went past the limit. */
    private static void countsOfTheirOwn() {
        Costs costs = new Costs();
        int dear = costs.key(300);
        int tooDear = costs.key(301);
        Told told = costs.told.target(0).write(0, 0, dear).test(0, tooDear, dear).test(1, dear, 63);
        for (int round = 0; round < 20; round++) {
            is("300 keys", told, dear, Costs.valueOf(300));
            fails("301 keys", told, tooDear);
            due.is("301 keys", told.builder.test(0), 2);
            due.answers("300 keys", () -> told.builder.output(0, 0), Costs.valueOf(300));
            due.is("300 keys and 1", told.builder.test(1), 2);
        }
        due.is("300 keys", told.number(50, Costs.valueOf(299)).test(2, 50, 50).builder.test(2), 1);
    }

    /** "The i-th .. from the least on (i from 0 on); NONE if there is none such." */
    private static void theIthInARing() {
        int[] far = {-1, -2, -64, 64, 65, Integer.MIN_VALUE, Integer.MAX_VALUE};
        for (int count = 0; count <= 64; count++) {
            Told told = new Told();
            // Told from the greatest on, so that the order is that of the keys.
            for (int key = 63; key > 63 - count; key--) {
                told.sum(key, key, key);
            }
            for (int i = 0; i < 64; i++) {
                due.is(count + " keys: ring(" + i + ")", told.builder.ring(i),
                        i < count ? 64 - count + i : -1);
            }
            for (int i : far) {
                due.is(count + " keys: ring(" + i + ")", told.builder.ring(i), -1);
            }
        }
    }

    /** "one comes from it back to it by going from a KEY to those that it names as b and c" */
    private static void ringsOfEverySize() {
        for (int size = 1; size <= 64; size++) {
            Told byB = new Told();
            Told byC = new Told();
            Told open = new Told();
            for (int key = 0; key < size; key++) {
                int next = (key + 1) % size;
                byB.event(1 + key % 4, key, next, 63);
                byC.event(1 + key % 4, key, 63, next);
                if (key < size - 1) {
                    open.sum(key, next, next);
                }
            }
            rings("by b, size " + size, byB, size);
            rings("by c, size " + size, byC, size);
            rings("open, size " + size, open, 0);
            rings("open at a number", open.number(size - 1, 0), 0);
        }
    }

    private static void rings(String what, Told told, int count) {
        for (int i = 0; i <= count; i++) {
            due.is(what + ": ring(" + i + ")", told.builder.ring(i), i < count ? i : -1);
        }
    }

    /** "also to such as aren't told": one comes to them, but from there no further. */
    private static void waysOverKeysThatAreNotTold() {
        Told told = new Told().sum(0, 1, 2).sum(3, 0, 1);
        rings("none is told that leads back", told, 0);
        told.sum(1, 0, 5);
        rings("one leads back", told, 2);
        fails("the ring's key", told, 0);
        rings("a number leads nowhere", told.number(1, 0), 0);
    }

    /** "NONE if it isn't told" */
    private static void testsFrom0To15() {
        Told told = new Told().number(0, 1);
        int[] none = {-1, -16, 16, 17, 32, 256, Integer.MIN_VALUE, Integer.MAX_VALUE};
        for (int test = 0; test < 16; test++) {
            due.is("not told yet", told.builder.test(test), -1);
            told.test(test, 0, test % 2 == 0 ? 0 : 63);
            due.is("told", told.builder.test(test), test % 2 == 0 ? 1 : 2);
        }
        for (int test : none) {
            due.is("test(" + test + ")", told.builder.test(test), -1);
        }
    }

    /** "1 its KEYS are equal, 0 they aren't, 2 one of them FAILS" */
    private static void equalToTheLastBit() {
        for (int bit = 0; bit < 64; bit++) {
            Told told = new Told().number(0, -1).number(1, -1 ^ 1L << bit).test(0, 0, 1)
                    .test(1, 1, 1).test(2, 1, 63).test(3, 63, 1);
            due.is("bit " + bit, told.builder.test(0), 0);
            due.is("the same key", told.builder.test(1), 1);
            due.is("c fails", told.builder.test(2), 2);
            due.is("b fails", told.builder.test(3), 2);
            due.is("equal", told.number(0, -1 ^ 1L << bit).builder.test(0), 1);
        }
    }
}
