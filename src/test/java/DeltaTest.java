/** Promise 11: delta. */
public final class DeltaTest {
    private static final Due due = new Due();

    public static void main(String[] args) {
        everyByte();
        wholeNewText();
        sameTexts();
        nothingNew();
        wrongPlaces();
        longTexts();
        due.end("DeltaTest");
    }

    private static void are(String what, Told told, int... bytes) {
        for (int i = 0; i < bytes.length; i++) {
            int place = i;
            due.answers(what + ": delta(" + i + ")", () -> told.builder.delta(place), bytes[i]);
        }
        fails(what, told, bytes.length);
    }

    private static void fails(String what, Told told, int i) {
        due.fails(what + ": delta(" + i + ")", () -> told.builder.delta(i),
                ArrayIndexOutOfBoundsException.class);
    }

    private static void everyByte() {
        int[] bytes = {0, 1, 127, 128, 200, 255};
        int[] wants = {0, 1, 127, -128, -56, -1};
        for (int i = 0; i < bytes.length; i++) {
            are("byte " + bytes[i], new Told().newByte(bytes[i]), wants[i]);
        }
    }

    private static void wholeNewText() {
        Told told = new Told().oldByte(1).newByte(1).oldByte(2).newByte(2).newByte(3);
        are("the old one is its beginning", told, 1, 2, 3);
        are("another last byte", told.oldByte(4), 1, 2, 3);
        are("the old one is longer", told.oldByte(5), 1, 2, 3);
        are("another first byte", new Told().oldByte(9).newByte(8).newByte(7).oldByte(7), 8, 7);
        are("only the last differs", new Told().oldByte(1).oldByte(2).newByte(1).newByte(3), 1, 3);
    }

    private static void sameTexts() {
        are("both empty", new Told());
        are("told in turn", new Told().oldByte(1).newByte(1).oldByte(255).newByte(255));
        Told told = new Told().newByte(1).newByte(2).oldByte(1).oldByte(2);
        are("told one after the other", told);
        are("one byte more", told.newByte(0), 1, 2, 0);
        are("the same again", told.oldByte(0));
    }

    private static void nothingNew() {
        are("no new text", new Told().oldByte(1).oldByte(2));
        are("no texts, but keys", new Told().number(1, 65).target(1).result(1, 1));
    }

    private static void wrongPlaces() {
        Told told = new Told().newByte(5).newByte(6).oldByte(5);
        int[] none = {-1, 2, 3, 200, Integer.MIN_VALUE, Integer.MAX_VALUE};
        for (int i : none) {
            fails("no such place", told, i);
            fails("no such place in nothing", new Told(), i);
        }
    }

    private static void longTexts() {
        Told told = new Told();
        int[] all = new int[200];
        for (int i = 0; i < 200; i++) {
            told.newByte(i);
            all[i] = (byte) i;
        }
        are("200 bytes", told, all);
        Told old = new Told();
        for (int i = 0; i < 200; i++) {
            old.oldByte(7);
        }
        are("200 old bytes", old);
        Told half = new Told();
        for (int i = 0; i < 100; i++) {
            half.newByte(i).oldByte(i);
        }
        are("100 bytes, twice", half);
    }
}
