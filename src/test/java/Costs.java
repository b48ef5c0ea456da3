/** Makes keys and targets that take a known number of keys or runs, so that limits can be met. */
final class Costs {
    static final int UNTOLD = 63;

    final Told told = new Told();
    private int nextKey = 0;
    private int nextTarget = 0;

    /** A key that takes just so many keys to be worked out, itself among them. */
    int key(int cost) {
        int key = nextKey++;
        if (cost == 1) {
            told.number(key, 1);
        } else if (cost % 2 == 0) {
            told.either(key, key(cost - 1), UNTOLD);
        } else {
            int half = key(cost / 2);
            told.sum(key, half, half);
        }
        return key;
    }

    /** What such a key is. */
    static long valueOf(int cost) {
        if (cost == 1) {
            return 1;
        }
        return cost % 2 == 0 ? valueOf(cost - 1) : 2 * valueOf(cost / 2);
    }

    /** A key that fails, but not by the limit, when so many keys have been worked out. */
    int failingKey(int cost) {
        int key = nextKey++;
        told.sum(key, cost == 2 ? UNTOLD : key(cost - 2), UNTOLD);
        return key;
    }

    int number(long number) {
        told.number(nextKey, number);
        return nextKey++;
    }

    /** A target that takes just so many runs, its own among them, and gets to its last step. */
    int target(int runs) {
        int[] costs = {1, 3, 7, 15, 31};
        int first = nextTarget;
        for (int i = 0; i < costs.length; i++) {
            told.target(first + i);
            if (i > 0) {
                told.take(first + i, 0, first + i - 1).take(first + i, 0, first + i - 1);
            }
        }
        int target = first + costs.length;
        nextTarget = target + 1;
        told.target(target);
        int left = runs - 1;
        for (int i = costs.length - 1; i >= 0; i--) {
            for (; left >= costs[i]; left -= costs[i]) {
                told.take(target, 0, first + i);
            }
        }
        return target;
    }
}
