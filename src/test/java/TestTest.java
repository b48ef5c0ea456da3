/** Promise 10: test. */
public final class TestTest {
    private static final Due due = new Due();

    public static void main(String[] args) {
        answers();
        failing();
        latestCounts();
        notTold();
        oneCount();
        due.end("TestTest");
    }

    private static void is(String what, Told told, int test, int want) {
        due.is(what + ": test(" + test + ")", told.builder.test(test), want);
    }

    private static void answers() {
        Told told = new Told().number(0, 4).number(63, 2).sum(2, 63, 63).number(3, 4L + (1L << 32))
                .test(0, 0, 2).test(1, 0, 63).test(15, 0, 3).test(2, 2, 2).test(3, 63, 2);
        is("equal", told, 0, 1);
        is("the same key", told, 2, 1);
        is("unequal", told, 1, 0);
        is("unequal", told, 3, 0);
        is("equal but for the high half", told, 15, 0);
        is("by now equal", told.number(63, 4), 1, 1);
    }

    private static void failing() {
        Told told = new Told().number(0, 4).number(1, 0).quotient(2, 0, 1).sum(3, 3, 0)
                .test(0, 40, 0).test(1, 0, 40).test(2, 2, 0).test(3, 0, 3).test(4, 2, 2)
                .test(5, 40, 40);
        for (int test = 0; test <= 5; test++) {
            is("one of them fails", told, test, 2);
        }
        is("told by now", told.number(40, 4), 0, 1);
        is("told by now", told, 1, 1);
    }

    private static void latestCounts() {
        Told told = new Told().number(0, 1).number(1, 2).test(7, 0, 1).test(8, 0, 0);
        is("unequal", told, 7, 0);
        is("the latest counts", told.test(7, 1, 1), 7, 1);
        is("the latest counts", told.test(7, 0, 9), 7, 2);
        is("the other one", told, 8, 1);
    }

    private static void notTold() {
        Told told = new Told().number(0, 1).target(1).needs(2, 2, 1).result(3, 1).test(4, 0, 0);
        int[] none = {-1, 0, 1, 2, 3, 5, 15, 16, Integer.MIN_VALUE, Integer.MAX_VALUE};
        for (int test : none) {
            is("not told", told, test, -1);
        }
        is("told", told, 4, 1);
    }

    private static void oneCount() {
        Told told = new Told().costlyKeys().number(30, 150).number(31, 74).test(0, 14, 14)
                .test(1, 14, 15).test(2, 15, 14).test(3, 10, 30).test(4, 30, 10).test(5, 9, 7)
                .test(6, 11, 11).test(7, 14, 31).test(8, 12, 7);
        is("150 and 150 keys", told, 0, 1);
        is("150 and 151 keys", told, 1, 2);
        is("151 and 150 keys", told, 2, 2);
        is("300 and 1 keys", told, 3, 2);
        is("1 and 300 keys", told, 4, 2);
        is("43 and 255 keys", told, 5, 0);
        is("301 keys", told, 6, 2);
        is("150 and 1 keys", told, 7, 1);
        is("44 and 255 keys", told, 8, 0);
        is("150 and 150 keys behind a failure", told, 0, 1);
        due.answers("value(10): a count of its own", () -> told.builder.value(10), 150);
    }
}
