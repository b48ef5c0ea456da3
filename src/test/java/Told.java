/** Tells a builder its events, so that tests read like the document's Terms. */
final class Told {
    final PlainBuilder builder = new PlainBuilder();
    private int count = 0;

    /** Counts for itself: an object is used for 512 calls at most, and events() would be one. */
    Told event(int kind, long a, long b, long c) {
        int number = builder.event(kind, a, b, c);
        if (number != count) {
            throw new AssertionError("event(" + kind + ", " + a + ", " + b + ", " + c
                    + ") answered " + number + ", not " + count);
        }
        count++;
        return this;
    }

    int count() {
        return count;
    }

    Told number(int key, long number) {
        return event(0, key, number, 0);
    }

    Told sum(int key, int b, int c) {
        return event(1, key, b, c);
    }

    Told product(int key, int b, int c) {
        return event(2, key, b, c);
    }

    Told quotient(int key, int b, int c) {
        return event(3, key, b, c);
    }

    Told either(int key, int b, int c) {
        return event(4, key, b, c);
    }

    Told target(int target) {
        return event(5, target, 0, 0);
    }

    Told write(int target, int path, int key) {
        return event(6, target, path, key);
    }

    Told copy(int target, int path, int from) {
        return event(7, target, path, from);
    }

    Told add(int target, int path, int from) {
        return event(8, target, path, from);
    }

    Told take(int target, int path, int other) {
        return event(9, target, path, other);
    }

    Told version(int name, int version) {
        return event(10, name, version, 0);
    }

    Told houseWants(int name, int least, int most) {
        return event(11, 0, 0, name * 100L + least * 10L + most);
    }

    Told wants(int name, int version, int wanted, int least, int most) {
        return event(11, name, version, wanted * 100L + least * 10L + most);
    }

    Told needs(int job, int needed, int result) {
        return event(12, job, needed, result);
    }

    Told result(int job, int result) {
        return event(13, job, result, 0);
    }

    Told test(int test, int b, int c) {
        return event(14, test, b, c);
    }

    Told oldByte(int more) {
        return event(15, 0, more, 0);
    }

    Told newByte(int more) {
        return event(15, 1, more, 0);
    }

    /**
     * Keys whose working out takes 1, 3, 7 .. 255 keys (0 to 7), 300 (10), 301 (11), 150 (14) and
     * 151 (15). Keys 10 and 11 would be 150, keys 14 and 15 are 74. Key 63 stays untold.
     */
    Told costlyKeys() {
        number(0, 1);
        for (int key = 1; key <= 7; key++) {
            sum(key, key - 1, key - 1);
        }
        sum(8, 2, 1);       // 7 + 3 + 1 = 11
        sum(9, 4, 8);       // 31 + 11 + 1 = 43
        either(12, 9, 63);  // 44
        sum(10, 7, 12);     // 255 + 44 + 1 = 300
        either(11, 10, 63); // 301
        sum(20, 2, 8);      // 7 + 11 + 1 = 19
        either(21, 20, 63);
        either(22, 21, 63);
        either(23, 22, 63); // 22
        sum(14, 6, 23);     // 127 + 22 + 1 = 150
        return either(15, 14, 63);
    }
}
