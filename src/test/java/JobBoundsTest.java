/**
 * The bounds of promise 8 and of the JOBS in Terms. Each method stands for the words of the
 * document above it.
 */
public final class JobBoundsTest {
    private static final int WAITS = 0;
    private static final int READY = 1;
    private static final int SKIPPED = 2;
    private static final int PASSED = 3;
    private static final int FAILED = 4;
    private static final int EITHER = 3;

    private static final Due due = new Due();

    public static void main(String[] args) {
        thereIfNamed();
        otherWhat();
        needsAsOftenAsTold();
        latestResultCounts();
        ownResultFirst();
        everyNeedAndResult();
        everyTwoNeeds();
        skippedInARow();
        ringsWait();
        ringsWithAnotherNeed();
        fullOfNeeds();
        due.end("JobBoundsTest");
    }

    private static void state(String what, Told told, int job, int want) {
        due.is(what + ": job(" + job + ", 0)", told.builder.job(job, 0), want);
    }

    /** "A JOB is there if one of these names it, as a or b of 12, or as a of 13"; else NONE */
    private static void thereIfNamed() {
        int[] none = {-1, -2, -16, 16, 17, 32, 256, Integer.MIN_VALUE, Integer.MAX_VALUE};
        for (int job = 0; job < 16; job++) {
            int other = (job + 5) % 16;
            Told asA = new Told().needs(job, other, 1);
            Told asB = new Told().needs(other, job, 1);
            Told byResult = new Told().event(13, job, 1, other);
            for (int each = 0; each < 16; each++) {
                boolean named = each == job || each == other;
                due.is("as a", asA.builder.job(each, 1), named ? each == job ? 1 : 0 : -1);
                due.is("as b", asB.builder.job(each, 1), named ? each == other ? 1 : 0 : -1);
                due.is("by its result", byResult.builder.job(each, 1), each == job ? 0 : -1);
                state("as a", asA, each, named ? each == job ? WAITS : READY : -1);
                state("as b", asB, each, named ? each == other ? WAITS : READY : -1);
                state("by its result", byResult, each, each == job ? PASSED : -1);
            }
            for (int each : none) {
                state("no such job", asA, each, -1);
                due.is("no such job: job(" + each + ", 1)", byResult.builder.job(each, 1), -1);
            }
        }
    }

    /** "or for another what" */
    private static void otherWhat() {
        Told told = new Told().needs(3, 4, 1);
        int[] none = {-1, -2, 2, 3, 4, 256, Integer.MIN_VALUE, Integer.MIN_VALUE + 1,
            Integer.MAX_VALUE};
        for (int what : none) {
            due.is("there: job(3, " + what + ")", told.builder.job(3, what), -1);
            due.is("not there: job(5, " + what + ")", told.builder.job(5, what), -1);
        }
        due.is("job(3, 0)", told.builder.job(3, 0), WAITS);
        due.is("job(3, 1)", told.builder.job(3, 1), 1);
    }

    /** "how many JOBS it NEEDS (each as often as told)" */
    private static void needsAsOftenAsTold() {
        Told told = new Told().result(7, 1);
        for (int count = 0; count < 199; count++) {
            due.is(count + " needs", told.builder.job(7, 1), count);
            told.needs(7, count % 2, 1 + count % 3);
        }
        due.is("199 needs", told.builder.job(7, 1), 199);
        due.is("the 201st event", told.builder.event(12, 7, 0, 1), -4);
        due.is("199 needs still", told.builder.job(7, 1), 199);
        due.is("needed alone", told.builder.job(0, 1), 0);
    }

    /** "Of those that TELL the same (.. a JOB's RESULT ..) the latest one counts." */
    private static void latestResultCounts() {
        Told told = new Told().needs(1, 0, 1);
        for (int i = 0; i < 198; i++) {
            int result = 1 + i * 7 % 5 % 2;
            told.result(0, result);
            state("its own", told, 0, result == 1 ? PASSED : FAILED);
        }
        state("the last of 200", told.result(0, 2), 1, SKIPPED);
        due.is("one more", told.builder.event(13, 0, 1, 0), -4);
        state("refused", told, 1, SKIPPED);
    }

    /** "3 PASSED, 4 FAILED by its RESULT; without one: .." */
    private static void ownResultFirst() {
        for (int result = 1; result <= 2; result++) {
            int want = result == 1 ? PASSED : FAILED;
            state("needs nothing", new Told().result(5, result), 5, want);
            state("would wait", new Told().needs(5, 6, 1).result(5, result), 5, want);
            state("would be skipped", new Told().needs(5, 6, 1).result(6, 2).result(5, result), 5,
                    want);
            state("needs itself", new Told().needs(5, 5, 3 - result).result(5, result), 5, want);
        }
    }

    /** "has another RESULT than it needs"; "has no RESULT"; "else 1 READY" */
    private static void everyNeedAndResult() {
        for (int job = 0; job < 16; job++) {
            int other = 15 - job;
            for (int need = 1; need <= 3; need++) {
                Told told = new Told().needs(job, other, need);
                state("need " + need + ", no result", told, job, WAITS);
                for (int result = 1; result <= 2; result++) {
                    boolean fits = need == EITHER || need == result;
                    state("need " + need + ", result " + result, told.result(other, result), job,
                            fits ? READY : SKIPPED);
                }
            }
        }
        state("needs nothing", new Told().needs(1, 0, 1), 0, READY);
    }

    /** Two NEEDS: SKIPPED before WAITS before READY, in whichever order they are told. */
    private static void everyTwoNeeds() {
        for (int both = 0; both < 81; both++) {
            int firstNeed = 1 + both % 3;
            int secondNeed = 1 + both / 3 % 3;
            int firstResult = both / 9 % 3;
            int secondResult = both / 27;
            Told told = new Told().needs(2, 0, firstNeed).needs(2, 1, secondNeed);
            if (firstResult > 0) {
                told.result(0, firstResult);
            }
            if (secondResult > 0) {
                told.result(1, secondResult);
            }
            boolean barred = isBarred(firstNeed, firstResult) || isBarred(secondNeed, secondResult);
            boolean waits = firstResult == 0 || secondResult == 0;
            state("two needs, " + both, told, 2, barred ? SKIPPED : waits ? WAITS : READY);
        }
    }

    private static boolean isBarred(int need, int result) {
        return result > 0 && need != EITHER && need != result;
    }

    /** "2 SKIPPED if a JOB that it NEEDS is SKIPPED", over 1 to 14 others */
    private static void skippedInARow() {
        for (int last = 1; last <= 15; last++) {
            Told up = new Told();
            Told down = new Told();
            for (int job = 1; job <= last; job++) {
                up.needs(job, job - 1, job == 1 ? 2 : EITHER);
                down.needs(last + 1 - job, last - job, last + 1 - job == 1 ? 2 : EITHER);
            }
            state("waits", up, last, WAITS);
            state("waits", down, last, WAITS);
            state("skipped", up.result(0, 1), last, SKIPPED);
            state("skipped", down.result(0, 1), last, SKIPPED);
            state("the result by now", up.result(0, 2), last, last == 1 ? READY : WAITS);
            // A result in between ends it.
            if (last > 1) {
                state("a result in between", down.result(last - 1, 2), last, READY);
            }
        }
    }

    /** "JOBS without RESULTS that NEED themselves, straight or by others, WAIT" */
    private static void ringsWait() {
        for (int size = 1; size <= 16; size++) {
            Told told = ring(size);
            for (int job = 0; job < size; job++) {
                state("a ring of " + size, told, job, WAITS);
            }
            told.result(0, 1);
            for (int job = 1; job < size; job++) {
                state("a ring of " + size + ", one passed", told, job,
                        job == size - 1 ? READY : WAITS);
            }
            told.result(0, 2);
            for (int job = 1; job < size; job++) {
                state("a ring of " + size + ", one failed", told, job, SKIPPED);
            }
            state("the one with the result", told, 0, FAILED);
        }
    }

    /** Each job needs the next one to have passed, the last one the first. */
    private static Told ring(int size) {
        Told told = new Told();
        for (int job = 0; job < size; job++) {
            told.needs(job, (job + 1) % size, 1);
        }
        return told;
    }

    /** "unless one of them is SKIPPED by another need" */
    private static void ringsWithAnotherNeed() {
        for (int size = 1; size <= 15; size++) {
            for (int which = 0; which < size; which++) {
                Told told = ring(size).needs(which, 15, 1);
                state("the other has no result", told, 0, WAITS);
                told.result(15, 1);
                state("the other need is met", told, 0, WAITS);
                told.result(15, 2);
                for (int job = 0; job < size; job++) {
                    state("skipped by job " + which, told, job, SKIPPED);
                }
            }
        }
    }

    /** 200 EVENTS, in which the last one bars all of the jobs */
    private static void fullOfNeeds() {
        Told told = new Told();
        while (told.count() < 199) {
            int job = 1 + told.count() % 15;
            told.needs(job, job - 1, 1);
        }
        state("waits", told, 15, WAITS);
        told.result(0, 2);
        for (int job = 1; job < 16; job++) {
            state("skipped", told, job, SKIPPED);
        }
        due.is("needs", told.builder.job(1, 1), 14);
    }
}
