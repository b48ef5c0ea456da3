import java.io.ByteArrayOutputStream;
import java.util.ArrayDeque;
import java.util.ArrayList;
import java.util.Arrays;
import java.util.Deque;
import java.util.HashSet;
import java.util.List;
import java.util.Set;
import java.util.TreeSet;

/** The document once more, written in other ways than the class: the mixed runs compare the two. */
final class Model {
    /** A failure that KIND 4 looks past. */
    private static final class Fails extends Exception {
        private static final long serialVersionUID = 1L;
    }

    /** A failure of all at once. */
    private static final class AllFails extends Exception {
        private static final long serialVersionUID = 1L;
    }

    private final List<long[]> events = new ArrayList<>();
    private int worked;
    private int runs;

    int event(int kind, long a, long b, long c) {
        if (kind < 0 || kind > 15) {
            return -1;
        }
        if (!mayBe(kind, a, b, c)) {
            return -2;
        }
        if (events.size() == 200) {
            return -4;
        }
        events.add(new long[] {kind, a, b, c});
        return events.size() - 1;
    }

    private boolean mayBe(int kind, long a, long b, long c) {
        long[] aMost = {63, 63, 63, 63, 63, 15, 15, 15, 15, 15, 5, 5, 15, 15, 15, 1};
        if (a < 0 || a > aMost[kind]) {
            return false;
        }
        if (kind >= 1 && kind <= 4 || kind == 14) {
            return (b & ~63L) == 0 && (c & ~63L) == 0;
        }
        if (kind >= 6 && kind <= 9) {
            long cMask = kind == 6 ? 63 : kind == 9 ? 15 : 7;
            return events.stream().anyMatch(e -> e[0] == 5 && e[1] == a)
                    && (b & ~7L) == 0 && (c & ~cMask) == 0;
        }
        switch (kind) {
            case 10:
                return b > 0 && b < 10;
            case 11:
                return (b == 0 ? a == 0 : b > 0 && b < 10) && c > -100 && c < 600;
            case 12:
                return (b & ~15L) == 0 && (c == 1 || c == 2 || c == 3);
            case 13:
                return b == 1 || b == 2;
            case 15:
                return (b & ~255L) == 0;
            default:
                return true;
        }
    }

    int events() {
        return events.size();
    }

    long value(int key) {
        worked = 0;
        try {
            return work(key, new HashSet<>());
        } catch (Fails | AllFails e) {
            throw new IllegalStateException("fails");
        }
    }

    private long[] teller(long key) {
        for (int i = events.size() - 1; i >= 0; i--) {
            if (events.get(i)[0] <= 4 && events.get(i)[1] == key) {
                return events.get(i);
            }
        }
        return null;
    }

    private long work(long key, Set<Long> open) throws Fails, AllFails {
        if (++worked == 301) {
            throw new AllFails();
        }
        long[] teller = teller(key);
        if (teller == null || open.contains(key)) {
            throw new Fails();
        }
        if (teller[0] == 0) {
            return teller[2];
        }
        Set<Long> inner = new HashSet<>(open);
        inner.add(key);
        if (teller[0] == 4) {
            try {
                return work(teller[2], inner);
            } catch (Fails e) {
                return work(teller[3], inner);
            }
        }
        long b = work(teller[2], inner);
        long c = work(teller[3], inner);
        if (teller[0] == 3) {
            if (c == 0) {
                throw new Fails();
            }
            return b / c;
        }
        return teller[0] == 1 ? b + c : b * c;
    }

    long output(int target, int path) {
        runs = 0;
        try {
            long[] tree = run(target, List.of());
            if (path >= 0 && path < 8) {
                return tree[path];
            }
        } catch (Fails | AllFails e) {
            throw new IllegalStateException("fails");
        }
        throw new IllegalStateException("fails");
    }

    private long[] run(long target, List<Long> running) throws Fails, AllFails {
        if (++runs == 41) {
            throw new AllFails();
        }
        if (running.contains(target)) {
            throw new Fails();
        }
        List<Long> inner = new ArrayList<>(running);
        inner.add(target);
        List<long[]> steps = null;
        for (long[] e : events) {
            if (e[0] == 5 && e[1] == target) {
                steps = new ArrayList<>();
            } else if (steps != null && e[0] >= 6 && e[0] <= 9 && e[1] == target) {
                steps.add(e);
            }
        }
        if (steps == null) {
            throw new Fails();
        }
        long[] tree = new long[8];
        for (long[] e : steps) {
            int b = (int) e[2];
            if (e[0] == 6) {
                worked = 0;
                tree[b] = work(e[3], new HashSet<>());
            } else if (e[0] == 9) {
                tree[b] = run(e[3], inner)[b];
            } else {
                tree[b] = (e[0] == 8 ? tree[b] : 0) + tree[(int) e[3]];
            }
        }
        return tree;
    }

    /** The first good choice, or null; an empty one if they are not tried. */
    private int[] choice() {
        List<TreeSet<Integer>> versions = new ArrayList<>();
        long count = 1;
        for (int name = 0; name < 6; name++) {
            TreeSet<Integer> told = new TreeSet<>();
            for (long[] e : events) {
                if (e[0] == 10 && e[1] == name) {
                    told.add((int) e[2]);
                }
            }
            versions.add(told);
            count *= told.size() + 1;
        }
        return count > 5000 ? new int[0] : choice(versions, new int[6], 0);
    }

    private int[] choice(List<TreeSet<Integer>> versions, int[] given, int name) {
        if (name == 6) {
            return isGood(given) ? given : null;
        }
        List<Integer> order = new ArrayList<>(List.of(0));
        order.addAll(versions.get(name).descendingSet());
        for (int version : order) {
            int[] more = given.clone();
            more[name] = version;
            int[] found = choice(versions, more, name + 1);
            if (found != null) {
                return found;
            }
        }
        return null;
    }

    private boolean isGood(int[] given) {
        for (long[] e : events) {
            if (e[0] == 11 && (e[2] == 0 || given[(int) e[1]] == e[2])) {
                int version = given[(int) (e[3] / 100)];
                if (version == 0 || version < e[3] / 10 % 10 || version > e[3] % 10) {
                    return false;
                }
            }
        }
        return true;
    }

    int solve() {
        int[] choice = choice();
        return choice == null ? 0 : choice.length == 0 ? -1 : 1;
    }

    int chosen(int name) {
        int[] choice = choice();
        return choice == null || name < 0 || name >= choice.length ? 0 : choice[name];
    }

    private int resultOf(long job) {
        int result = 0;
        for (long[] e : events) {
            if (e[0] == 13 && e[1] == job) {
                result = (int) e[2];
            }
        }
        return result;
    }

    int job(int i, int what) {
        boolean there = false;
        int needs = 0;
        boolean waits = false;
        for (long[] e : events) {
            there |= e[0] == 13 && e[1] == i || e[0] == 12 && (e[1] == i || e[2] == i);
            if (e[0] == 12 && e[1] == i) {
                needs++;
                waits |= resultOf(e[2]) == 0;
            }
        }
        if (!there || what < 0 || what > 1) {
            return -1;
        }
        if (what == 1) {
            return needs;
        }
        int result = resultOf(i);
        return result != 0 ? result + 2 : isSkipped(i) ? 2 : waits ? 0 : 1;
    }

    /** Looks for a barred need among all jobs without results that this one needs in the end. */
    private boolean isSkipped(long job) {
        Set<Long> seen = new HashSet<>(Set.of(job));
        Deque<Long> todo = new ArrayDeque<>(seen);
        while (!todo.isEmpty()) {
            long next = todo.pop();
            for (long[] e : events) {
                if (e[0] != 12 || e[1] != next) {
                    continue;
                }
                int result = resultOf(e[2]);
                if (result != 0 && e[3] != 3 && e[3] != result) {
                    return true;
                }
                if (result == 0 && seen.add(e[2])) {
                    todo.push(e[2]);
                }
            }
        }
        return false;
    }

    int ring(int i) {
        List<Integer> found = new ArrayList<>();
        for (int key = 0; key < 64; key++) {
            Set<Long> seen = new HashSet<>();
            Deque<Long> todo = new ArrayDeque<>(List.of((long) key));
            while (!todo.isEmpty()) {
                long[] teller = teller(todo.pop());
                if (teller != null && teller[0] != 0) {
                    for (long named : Arrays.copyOfRange(teller, 2, 4)) {
                        if (seen.add(named)) {
                            todo.push(named);
                        }
                    }
                }
            }
            if (seen.contains((long) key)) {
                found.add(key);
            }
        }
        return i >= 0 && i < found.size() ? found.get(i) : -1;
    }

    int test(int t) {
        long[] told = null;
        for (long[] e : events) {
            told = e[0] == 14 && e[1] == t ? e : told;
        }
        if (told == null) {
            return -1;
        }
        worked = 0;
        try {
            return work(told[2], new HashSet<>()) == work(told[3], new HashSet<>()) ? 1 : 0;
        } catch (Fails | AllFails e) {
            return 2;
        }
    }

    byte delta(int i) {
        ByteArrayOutputStream[] texts = {new ByteArrayOutputStream(), new ByteArrayOutputStream()};
        for (long[] e : events) {
            if (e[0] == 15) {
                texts[(int) e[1]].write((int) e[2]);
            }
        }
        byte[] whole = texts[1].toByteArray();
        byte[] delta = Arrays.equals(texts[0].toByteArray(), whole) ? new byte[0] : whole;
        if (i < 0 || i >= delta.length) {
            throw new ArrayIndexOutOfBoundsException("no such byte");
        }
        return delta[i];
    }
}
