/** Promise 4: value. */
public final class ValueTest {
    private static final Due due = new Due();

    public static void main(String[] args) {
        kinds();
        wrapAround();
        division();
        latestCounts();
        noSuchKey();
        failing();
        either();
        beingWorkedOut();
        limit();
        limitBeatsEither();
        failedFirstKeyEndsIt();
        longChain();
        due.end("ValueTest");
    }

    private static void is(String what, Told told, int key, long want) {
        due.answers(what + ": value(" + key + ")", () -> told.builder.value(key), want);
        due.answers(what + ", again: value(" + key + ")", () -> told.builder.value(key), want);
    }

    private static void fails(String what, Told told, int key) {
        due.fails(what + ": value(" + key + ")", () -> told.builder.value(key),
                IllegalStateException.class);
    }

    private static void kinds() {
        Told told = new Told().number(0, 17).number(63, -5).sum(1, 0, 63).product(2, 0, 63)
                .quotient(3, 0, 63).quotient(4, 63, 0).either(5, 0, 63).product(6, 3, 2);
        is("number", told, 63, -5);
        is("sum", told, 1, 12);
        is("product", told, 2, -85);
        is("quotient", told, 3, -3);
        is("quotient below 1", told, 4, 0);
        is("either", told, 5, 17);
        is("of keys that are worked out themselves", told, 6, 255);
    }

    private static void wrapAround() {
        Told told = new Told().number(0, Long.MAX_VALUE).number(1, 1).number(2, Long.MIN_VALUE)
                .sum(3, 0, 1).sum(4, 2, 2).product(5, 0, 0).product(6, 2, 0).number(7, -1)
                .product(8, 2, 7).sum(9, 2, 7);
        is("most and 1", told, 3, Long.MIN_VALUE);
        is("least twice", told, 4, 0);
        is("most by itself", told, 5, 1);
        is("least by most", told, 6, Long.MIN_VALUE);
        is("least by - 1", told, 8, Long.MIN_VALUE);
        is("least and - 1", told, 9, Long.MAX_VALUE);
    }

    private static void division() {
        Told told = new Told().number(0, Long.MIN_VALUE).number(1, -1).number(2, 0).number(3, -7)
                .number(4, 2).quotient(5, 0, 1).quotient(6, 3, 4).quotient(7, 3, 2)
                .quotient(8, 2, 3).quotient(9, 0, 4).number(10, 7).number(11, -2)
                .quotient(12, 10, 11).quotient(13, 3, 11).quotient(14, 2, 2);
        is("the least by - 1", told, 5, Long.MIN_VALUE);
        is("- 7 by 2", told, 6, -3);
        fails("- 7 by 0", told, 7);
        is("0 by - 7", told, 8, 0);
        is("the least by 2", told, 9, Long.MIN_VALUE / 2);
        is("7 by - 2", told, 12, -3);
        is("- 7 by - 2", told, 13, 3);
        fails("0 by 0", told, 14);
    }

    private static void latestCounts() {
        Told told = new Told().number(0, 1).number(1, 2).sum(2, 0, 1);
        is("sum", told, 2, 3);
        is("told anew", told.number(0, 10), 2, 12);
        is("of another kind", told.product(2, 0, 1), 2, 20);
        is("a number again", told.number(2, 5), 2, 5);
    }

    private static void noSuchKey() {
        Told told = new Told().number(0, 1).number(63, 2);
        int[] none = {-1, 64, Integer.MIN_VALUE, Integer.MAX_VALUE};
        for (int key : none) {
            fails("no such key", told, key);
        }
        fails("not told", told, 1);
        // What other kinds name tells no key.
        told.event(5, 7, 1, 1).event(10, 3, 1, 1).event(12, 9, 1, 1).event(15, 1, 1, 1);
        fails("a target's number", told, 7);
        fails("a name's number", told, 3);
        fails("a job's number", told, 9);
        fails("a text's number", told, 1);
    }

    private static void failing() {
        Told told = new Told().number(0, 1).sum(1, 0, 40).sum(2, 40, 0).product(3, 0, 40)
                .product(4, 40, 0).quotient(5, 0, 40).quotient(6, 40, 0).sum(7, 1, 0);
        for (int key = 1; key <= 7; key++) {
            fails("names a key that isn't told", told, key);
        }
        is("told by now", told.number(40, 4), 7, 6);
    }

    private static void either() {
        Told told = new Told().number(0, 1).number(1, 2).number(2, 0).quotient(3, 0, 2)
                .either(4, 0, 1).either(5, 40, 1).either(6, 3, 1).either(7, 40, 41)
                .either(8, 0, 40).either(9, 7, 1).either(10, 40, 7).sum(11, 5, 6);
        is("the first", told, 4, 1);
        is("the first isn't told", told, 5, 2);
        is("the first divides by 0", told, 6, 2);
        fails("neither", told, 7);
        is("the second isn't told", told, 8, 1);
        is("the first, an either, fails", told, 9, 2);
        fails("the second, an either, fails", told, 10);
        is("two of them together", told, 11, 4);
    }

    private static void beingWorkedOut() {
        Told told = new Told().number(0, 3).sum(1, 1, 0).either(2, 2, 0).sum(3, 4, 0)
                .either(4, 3, 0).quotient(5, 6, 0).product(6, 0, 5).either(7, 0, 7);
        fails("names itself", told, 1);
        is("either itself or 0", told, 2, 3);
        is("ring with an either, from the sum", told, 3, 6);
        is("ring with an either, from the either", told, 4, 3);
        fails("ring of two", told, 5);
        fails("ring of two", told, 6);
        is("either with itself as the second", told, 7, 3);
        // Behind a failure nothing is left as being worked out.
        is("told anew behind a failure", told.sum(1, 0, 0), 1, 6);
        is("the ring cut", told.number(6, 9), 5, 3);
    }

    private static void limit() {
        Told told = new Told().costlyKeys();
        is("255 keys", told, 7, 128);
        is("300 keys", told, 10, 150);
        fails("301 keys", told, 11);
        is("300 keys behind a failure", told, 10, 150);
        // A key that isn't told, or is being worked out, counts as well.
        told.either(30, 63, 14).either(31, 31, 14).sum(32, 14, 31).sum(33, 14, 30);
        is("150 keys and 2", told, 30, 74);
        is("150 keys and 2, by itself", told, 31, 74);
        fails("150 keys twice and 3", told, 32);
        fails("150 keys twice and 3", told, 33);
        told.either(34, 63, 9).sum(35, 7, 34);
        fails("an untold key makes it 301", told, 35);
        told.either(36, 36, 9).sum(37, 7, 36);
        fails("a key that is being worked out makes it 301", told, 37);
    }

    private static void limitBeatsEither() {
        Told told = new Told().costlyKeys().number(30, 5).either(31, 11, 30).either(32, 31, 30)
                .sum(40, 7, 7).either(41, 40, 30).sum(42, 41, 30).either(43, 42, 0);
        fails("either one past the limit or a number", told, 31);
        fails("either of either", told, 32);
        fails("either one far past the limit or a number", told, 41);
        fails("either above a sum of such", told, 43);
        is("a number behind that", told, 30, 5);
        is("300 keys behind that", told, 10, 150);
    }

    /** Where b fails c is not worked out, so it doesn't count. */
    private static void failedFirstKeyEndsIt() {
        Told told = new Told().costlyKeys().number(30, 5);
        for (int kind = 1; kind <= 3; kind++) {
            told.event(kind, 40, 63, 11).either(41, 40, 30);
            is("kind " + kind + ", b fails before c can", told, 41, 5);
            told.event(kind, 40, 11, 63);
            fails("kind " + kind + ", b goes past the limit", told, 41);
            // 1 for key 41, 1 for key 40, 255 for b, 1 for c, which fails: 42 are left.
            told.event(kind, 40, 7, 63).either(41, 40, 8);
            is("kind " + kind + ", c fails behind b", told, 41, 6);
            told.either(41, 40, 9);
            fails("kind " + kind + ", b counts though c fails", told, 41);
        }
    }

    private static void longChain() {
        Told told = new Told().number(0, 1);
        for (int key = 1; key < 64; key++) {
            told.sum(key, key - 1, 0);
        }
        is("64 keys deep", told, 63, 64);
        told.either(0, 63, 62);
        fails("64 keys in a ring", told, 63);
        fails("64 keys in a ring", told, 0);
    }
}
