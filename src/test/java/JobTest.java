/** Promise 8: job. */
public final class JobTest {
    private static final int WAITS = 0;
    private static final int READY = 1;
    private static final int SKIPPED = 2;
    private static final int PASSED = 3;
    private static final int FAILED = 4;

    private static final Due due = new Due();

    public static void main(String[] args) {
        results();
        needs();
        severalNeeds();
        skippingSpreads();
        ringsOfNeeds();
        skippingAgainstTheOrder();
        whoIsThere();
        countOfNeeds();
        otherWhats();
        due.end("JobTest");
    }

    private static void state(String what, Told told, int job, int want) {
        due.is(what + ": job(" + job + ", 0)", told.builder.job(job, 0), want);
    }

    private static void results() {
        Told told = new Told().result(0, 1).result(15, 2);
        state("passed", told, 0, PASSED);
        state("failed", told, 15, FAILED);
        state("the latest counts", told.result(0, 2), 0, FAILED);
        state("the latest counts", told.result(0, 1), 0, PASSED);
        // A result counts whatever the job needs.
        told.needs(0, 15, 1).needs(0, 9, 1);
        state("passed in spite of its needs", told, 0, PASSED);
    }

    private static void needs() {
        int[][] rows = {
            {1, 1, READY}, {1, 2, SKIPPED}, {2, 1, SKIPPED}, {2, 2, READY}, {3, 1, READY},
            {3, 2, READY}
        };
        for (int[] row : rows) {
            Told told = new Told().needs(1, 0, row[0]);
            state("no result yet, need " + row[0], told, 1, WAITS);
            state("needs nothing", told, 0, READY);
            state("need " + row[0] + ", result " + row[1], told.result(0, row[1]), 1, row[2]);
            state("with a result of its own", told.result(1, 2), 1, FAILED);
        }
    }

    private static void severalNeeds() {
        Told told = new Told().needs(5, 1, 1).needs(5, 2, 2).needs(5, 3, 3);
        state("none", told, 5, WAITS);
        state("one", told.result(1, 1), 5, WAITS);
        state("two", told.result(2, 2), 5, WAITS);
        state("all", told.result(3, 2), 5, READY);
        state("one is another by now", told.result(2, 1), 5, SKIPPED);
        state("and back", told.result(2, 2), 5, READY);
        // Skipped comes before waiting.
        state("one waits, one bars", new Told().needs(5, 1, 1).needs(5, 2, 2).result(2, 1), 5,
                SKIPPED);
        Told against = new Told().needs(5, 1, 1).needs(5, 1, 2);
        state("needs both results", against, 5, WAITS);
        state("needs both results", against.result(1, 1), 5, SKIPPED);
    }

    private static void skippingSpreads() {
        Told told = new Told().needs(1, 0, 2).needs(2, 1, 3).needs(3, 2, 1).needs(3, 4, 1)
                .result(0, 1);
        state("another result", told, 1, SKIPPED);
        state("needs either of a skipped one", told, 2, SKIPPED);
        state("needs a skipped one", told, 3, SKIPPED);
        state("not told to need", told, 4, READY);
        told.result(2, 1);
        state("has a result, so isn't skipped", told, 2, PASSED);
        state("waits for the other one", told, 3, WAITS);
        state("all are there", told.result(4, 1), 3, READY);
    }

    private static void ringsOfNeeds() {
        state("needs itself", new Told().needs(5, 5, 1), 5, WAITS);
        Told told = new Told().needs(0, 1, 1).needs(1, 2, 3).needs(2, 0, 2);
        for (int job = 0; job <= 2; job++) {
            state("ring of three", told, job, WAITS);
        }
        told.needs(1, 7, 1);
        for (int job = 0; job <= 2; job++) {
            state("another need that waits", told, job, WAITS);
        }
        told.result(7, 2);
        for (int job = 0; job <= 2; job++) {
            state("one is skipped by another need", told, job, SKIPPED);
        }
        told.result(1, 1);
        state("the ring cut by a result", told, 0, READY);
        state("the ring cut by a result", told, 1, PASSED);
        state("the ring cut by a result", told, 2, WAITS);
        state("itself and a result", new Told().needs(5, 5, 1).result(5, 2), 5, FAILED);
    }

    /** Needs are told so that each pass over them finds but one job more. */
    private static void skippingAgainstTheOrder() {
        Told told = new Told();
        for (int job = 15; job >= 1; job--) {
            told.needs(job, job - 1, 1);
        }
        for (int job = 1; job < 16; job++) {
            state("waits in a row", told, job, WAITS);
        }
        told.result(0, 2);
        for (int job = 1; job < 16; job++) {
            state("skipped in a row", told, job, SKIPPED);
        }
    }

    private static void whoIsThere() {
        Told told = new Told().number(4, 1).target(5).event(10, 1, 6, 6).event(14, 7, 8, 8);
        for (int job = 0; job < 16; job++) {
            state("not there", told, job, -1);
            due.is("not there: job(" + job + ", 1)", told.builder.job(job, 1), -1);
        }
        told.needs(1, 2, 3).event(13, 3, 1, 9);
        state("named as a of a need", told, 1, WAITS);
        state("named as b of a need", told, 2, READY);
        state("named as a of a result", told, 3, PASSED);
        state("b of a result names none", told, 9, -1);
        int[] none = {-1, 0, 4, 16, Integer.MIN_VALUE, Integer.MAX_VALUE};
        for (int job : none) {
            state("not there", told, job, -1);
            due.is("not there: job(" + job + ", 1)", told.builder.job(job, 1), -1);
        }
    }

    private static void countOfNeeds() {
        Told told = new Told().needs(1, 0, 1).needs(1, 0, 1).needs(1, 2, 3).needs(1, 1, 2)
                .needs(2, 1, 1).result(3, 1);
        due.is("each as often as told", told.builder.job(1, 1), 4);
        due.is("one", told.builder.job(2, 1), 1);
        due.is("none, named as b", told.builder.job(0, 1), 0);
        due.is("none, with a result", told.builder.job(3, 1), 0);
        due.is("with a result", told.result(1, 1).builder.job(1, 1), 4);
    }

    private static void otherWhats() {
        PlainBuilder x = new Told().needs(1, 0, 1).builder;
        int[] none = {-1, 2, 3, Integer.MIN_VALUE, Integer.MAX_VALUE};
        for (int what : none) {
            due.is("job(1, " + what + ")", x.job(1, what), -1);
            due.is("job(9, " + what + ")", x.job(9, what), -1);
        }
    }
}
