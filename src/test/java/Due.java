/** Compares answers with those that are due; the tests of one class share one object. */
final class Due {
    /** A call of the face, of any of its types. */
    interface Call {
        long answer();
    }

    private int wrong = 0;
    private int asked = 0;

    void is(String call, long got, long want) {
        asked++;
        if (got != want) {
            tellWrong(call + " answered " + got + ", due is " + want);
        }
    }

    void answers(String call, Call body, long want) {
        String got = outcome(body);
        asked++;
        if (!got.equals(Long.toString(want))) {
            tellWrong(call + " answered " + got + ", due is " + want);
        }
    }

    void fails(String call, Call body, Class<? extends RuntimeException> want) {
        String got = outcome(body);
        asked++;
        if (!got.equals("throws." + want.getSimpleName())) {
            tellWrong(call + " answered " + got + ", due is " + want.getSimpleName());
        }
    }

    void tellWrong(String what) {
        wrong++;
        System.out.println("  " + what);
    }

    /** The exact class counts: the document names the exceptions. */
    static String outcome(Call body) {
        try {
            return Long.toString(body.answer());
        } catch (RuntimeException e) {
            String name = "throws." + e.getClass().getSimpleName();
            return isOfTheMachine(e) ? name + ", by the machine" : name;
        }
    }

    /** The class throws by itself, with a text: the machine's index errors have another, or none. */
    private static boolean isOfTheMachine(RuntimeException e) {
        return e.getMessage() == null || e.getMessage().startsWith("Index ");
    }

    void end(String name) {
        System.out.println(name + ": " + asked + " answers, " + wrong + " wrong");
        if (wrong != 0) {
            System.exit(1);
        }
    }
}
