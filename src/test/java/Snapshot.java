import java.util.function.Supplier;

/** All that a house answers, as one text: two houses that answer alike have the same one. */
final class Snapshot {
    private static final int PARTS = 5;

    /** Each part asks a house of its own, since an object is used for 512 calls at most. */
    static String of(Supplier<PlainBuilder> houses) {
        StringBuilder all = new StringBuilder();
        for (int part = 0; part < PARTS; part++) {
            ask(part, houses.get(), all);
        }
        return all.toString();
    }

    private static void ask(int part, PlainBuilder x, StringBuilder all) {
        add(all, "events()", () -> x.events());
        switch (part) {
            case 0:
                for (int i = -1; i <= 64; i++) {
                    int key = i;
                    add(all, "value " + key, () -> x.value(key));
                    add(all, "ring " + key, () -> x.ring(key));
                }
                break;
            case 1:
                for (int i = 0; i < 17 * 9; i++) {
                    int target = i / 9;
                    int path = i % 9;
                    add(all, "output " + target + " " + path, () -> x.output(target, path));
                }
                break;
            case 2:
                add(all, "solve", () -> x.solve());
                for (int i = -1; i <= 6; i++) {
                    int name = i;
                    add(all, "chosen " + name, () -> x.chosen(name));
                }
                break;
            case 3:
                for (int i = -1; i <= 16; i++) {
                    int which = i;
                    add(all, "job " + which, () -> x.job(which, 0));
                    add(all, "needs " + which, () -> x.job(which, 1));
                    add(all, "job, 2 " + which, () -> x.job(which, 2));
                    add(all, "test " + which, () -> x.test(which));
                }
                break;
            default:
                for (int i = -1; i <= 200; i++) {
                    int place = i;
                    add(all, "delta " + place, () -> x.delta(place));
                }
        }
    }

    private static void add(StringBuilder all, String call, Due.Call body) {
        all.append(call).append(": ").append(Due.outcome(body)).append('\n');
    }
}
