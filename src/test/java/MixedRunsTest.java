import java.util.Random;

/** All promises: runs of 512 calls each, of many mixes, against the model. */
public final class MixedRunsTest {
    private static final int RUNS = 1500;
    private static final int CALLS = 512;
    private static final int MIXES = 9;
    private static final int DEAR_KEYS = 7;
    private static final int DEAR_TARGETS = 8;
    private static final int[] KINDS_OF_KEYS = {0, 1, 1, 2, 2, 3, 4, 4, 4, 4, 5, 6, 9, 14};
    private static final int[] KINDS_OF_TARGETS = {0, 0, 6, 6, 7, 8, 8, 9, 9, 9, 9, 9, 9, 9};
    private static final long[] ODD = {
        Long.MIN_VALUE, Integer.MIN_VALUE, -101, -100, -99, -2, -1, 0, 1, 2, 3, 5, 6, 7, 8, 9, 10,
        15, 16, 63, 64, 255, 256, 599, 600, 1L << 32, Long.MAX_VALUE
    };

    private static final Due due = new Due();
    // A fixed seed: every run of this test makes the same calls.
    private static final Random random = new Random(20261115);

    private static PlainBuilder builder;
    private static Model model;
    private static int mix;
    private static int spread;

    public static void main(String[] args) {
        for (int run = 0; run < RUNS; run++) {
            builder = new PlainBuilder();
            model = new Model();
            mix = run % MIXES;
            spread = isDear() ? 16 + random.nextInt(30) : 2 + random.nextInt(15);
            // Few events leave room for questions in every state, many for what is large.
            int share = 10 + random.nextInt(80);
            int told = mix == DEAR_TARGETS ? tellTargets(run) : 0;
            for (int call = told; call < CALLS; call++) {
                if (random.nextInt(100) < share) {
                    tell(run);
                } else {
                    ask(run);
                }
            }
        }
        due.end("MixedRunsTest");
    }

    private static void compare(int run, String call, Due.Call got, Due.Call want) {
        String due = Due.outcome(want);
        String answer = Due.outcome(got);
        if (due.equals(answer)) {
            MixedRunsTest.due.is(call, 0, 0);
        } else {
            MixedRunsTest.due.tellWrong("run " + run + ": " + call + " answered " + answer
                    + ", due is " + due);
        }
    }

    private static int kind() {
        int any = random.nextInt(50);
        if (any == 0) {
            return random.nextInt(20) - 2;
        }
        switch (any < 5 ? 0 : mix) {
            case 1:
                return random.nextInt(5);
            case 2:
                return random.nextInt(10);
            case 3:
                return 10 + random.nextInt(2);
            case 4:
                return 12 + random.nextInt(2);
            case 5:
                return random.nextInt(3) == 0 ? 14 : random.nextInt(5);
            case 6:
                return random.nextInt(4) == 0 ? random.nextInt(16) : 15;
            case DEAR_KEYS:
                return oneOf(KINDS_OF_KEYS);
            case DEAR_TARGETS:
                return oneOf(KINDS_OF_TARGETS);
            default:
                return random.nextInt(16);
        }
    }

    private static int oneOf(int[] kinds) {
        return kinds[random.nextInt(kinds.length)];
    }

    /** Keys and steps that go on from others, so that counts come to their limits. */
    private static boolean isDear() {
        return mix == DEAR_KEYS || mix == DEAR_TARGETS;
    }

    /** One of the few below a: chains of such are long, and their costs double at each. */
    private static long justBelow(long a) {
        return Math.max(0, a - 1 - random.nextInt(3));
    }

    private static long below(int bound) {
        return random.nextInt(Math.min(bound, spread));
    }

    private static long odd() {
        return ODD[random.nextInt(ODD.length)];
    }

    /** All targets are told first, and the keys that they write: how many calls that takes. */
    private static int tellTargets(int run) {
        for (int target = 0; target < 16; target++) {
            tell(run, 5, target, 0, 0);
        }
        for (int key = 0; key < 4; key++) {
            tell(run, 0, key, key + 5, 0);
        }
        return 20;
    }

    private static void tell(int run, int kind, long a, long b, long c) {
        compare(run, "event(" + kind + ", " + a + ", " + b + ", " + c + ")",
                () -> builder.event(kind, a, b, c), () -> model.event(kind, a, b, c));
    }

    private static void tell(int run) {
        int kind = kind();
        long a = below(kind <= 4 || kind == 14 ? 64 : kind == 10 || kind == 11 ? 6 : 16);
        long b = numberB(kind);
        long c = numberC(kind);
        if (kind == 15) {
            a = random.nextInt(2);
        }
        if (isDear() && kind == 0) {
            a = random.nextInt(4);
        }
        if (isDear() && kind >= 1 && kind <= 4) {
            b = justBelow(a);
            c = justBelow(a);
        }
        if (mix == DEAR_TARGETS && kind == 6) {
            c = random.nextInt(4);
        }
        if (isDear() && kind == 9) {
            a = 1 + random.nextInt(15);
            c = justBelow(a);
        }
        if (kind == 11 && random.nextInt(4) == 0) {
            a = 0;
            b = 0;
        }
        int wrong = random.nextInt(60);
        long ea = wrong == 0 ? odd() : a;
        long eb = wrong == 1 ? odd() : b;
        long ec = wrong == 2 ? odd() : c;
        tell(run, kind, ea, eb, ec);
    }

    private static long numberB(int kind) {
        switch (kind) {
            case 0:
                return random.nextInt(3) == 0 ? odd() : random.nextInt(9) - 4;
            case 6:
            case 7:
            case 8:
            case 9:
                return below(8);
            case 10:
            case 11:
                return 1 + below(9);
            case 13:
                return 1 + random.nextInt(2);
            case 15:
                return below(256);
            default:
                return below(kind <= 4 || kind == 14 ? 64 : 16);
        }
    }

    private static long numberC(int kind) {
        switch (kind) {
            case 7:
            case 8:
                return below(8);
            case 9:
                return below(16);
            case 11:
                return below(6) * 100 + random.nextInt(5) * 10 + 3 + random.nextInt(7);
            case 12:
                return 1 + random.nextInt(3);
            default:
                return below(64);
        }
    }

    private static void ask(int run) {
        int far = random.nextInt(40) == 0 ? (int) odd() : random.nextInt(spread + 1);
        int path = random.nextInt(30) == 0 ? (int) odd() : random.nextInt(8);
        switch (random.nextInt(10)) {
            case 0:
                compare(run, "events()", () -> builder.events(), () -> model.events());
                break;
            case 1:
                compare(run, "solve()", () -> builder.solve(), () -> model.solve());
                break;
            case 2:
                compare(run, "chosen(" + far + ")", () -> builder.chosen(far),
                        () -> model.chosen(far));
                break;
            case 3:
                compare(run, "output(" + far + ", " + path + ")",
                        () -> builder.output(far, path), () -> model.output(far, path));
                break;
            case 4:
                compare(run, "job(" + far + ", " + path / 3 + ")",
                        () -> builder.job(far, path / 3), () -> model.job(far, path / 3));
                break;
            case 5:
                compare(run, "ring(" + far + ")", () -> builder.ring(far), () -> model.ring(far));
                break;
            case 6:
            case 7:
                compare(run, "test(" + far + ")", () -> builder.test(far), () -> model.test(far));
                break;
            case 8:
                compare(run, "delta(" + far + ")", () -> builder.delta(far),
                        () -> model.delta(far));
                break;
            default:
                compare(run, "value(" + far + ")", () -> builder.value(far),
                        () -> model.value(far));
        }
    }
}
