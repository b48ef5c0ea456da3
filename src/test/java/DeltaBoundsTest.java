/**
 * The bounds of promise 11 and of the texts in Terms. Each method stands for the words of the
 * document above it.
 */
public final class DeltaBoundsTest {
    private static final int[] FAR = {-1, -2, -200, 200, 201, 256, 65536, Integer.MIN_VALUE,
        Integer.MAX_VALUE};

    private static final Due due = new Due();

    public static void main(String[] args) {
        everyByte();
        everyLength();
        nothingIfBothAreTheSame();
        theNewOneIsABeginning();
        oneOtherByte();
        oneEmptyText();
        wholeWithoutCutting();
        due.end("DeltaBoundsTest");
    }

    private static void is(String what, Told told, int i, int want) {
        due.answers(what + ": delta(" + i + ")", () -> told.builder.delta(i), want);
    }

    private static void fails(String what, Told told, int i) {
        due.fails(what + ": delta(" + i + ")", () -> told.builder.delta(i),
                ArrayIndexOutOfBoundsException.class);
    }

    /** "one byte more, b (0 .. 255)": a byte above 127 is one below 0 in Java */
    private static void everyByte() {
        for (int more = 0; more <= 255; more++) {
            Told told = new Told().newByte(more);
            is("byte " + more, told, 0, more < 128 ? more : more - 256);
            fails("byte " + more, told, 1);
            fails("the same in both", told.oldByte(more), 0);
        }
    }

    /** "ArrayIndexOutOfBoundsException: there is none such", for 0 to 200 bytes */
    private static void everyLength() {
        for (int length = 0; length <= 200; length++) {
            Told told = new Told();
            for (int i = 0; i < length; i++) {
                told.newByte(i % 100 + 1);
            }
            String what = length + " bytes";
            if (length > 0) {
                is(what, told, 0, 1);
                is(what, told, length - 1, (length - 1) % 100 + 1);
            }
            fails(what, told, length);
            fails(what, told, length + 1);
            for (int far : FAR) {
                fails(what, told, far);
            }
        }
    }

    /** "or nothing if both texts are the same" */
    private static void nothingIfBothAreTheSame() {
        for (int length = 0; length <= 100; length++) {
            Told inTurn = new Told();
            Told oneByOne = new Told();
            for (int i = 0; i < length; i++) {
                inTurn.newByte(i).oldByte(i);
                oneByOne.oldByte(255 - i);
            }
            for (int i = 0; i < length; i++) {
                oneByOne.newByte(255 - i);
            }
            for (int i = 0; i <= length; i++) {
                fails("the same, told in turn", inTurn, i);
                fails("the same, told one by one", oneByOne, i);
            }
            fails("the same", inTurn, -1);
        }
    }

    /** "the whole new text", also where it is but one byte shorter or longer than the old one */
    private static void theNewOneIsABeginning() {
        for (int length = 1; length <= 99; length++) {
            Told longer = new Told();
            Told shorter = new Told();
            for (int i = 0; i < length; i++) {
                longer.newByte(i).oldByte(i);
                shorter.newByte(i).oldByte(i);
            }
            longer.newByte(77);
            shorter.oldByte(77);
            for (int i = 0; i < length; i++) {
                is("one longer", longer, i, i);
                is("one shorter", shorter, i, i);
            }
            is("one longer", longer, length, 77);
            fails("one longer", longer, length + 1);
            fails("one shorter", shorter, length);
            fails("the same by now", longer.oldByte(77), 0);
            fails("the same by now", shorter.newByte(77), 0);
        }
    }

    /** Two texts that differ in one byte, or in one bit of it, aren't the same. */
    private static void oneOtherByte() {
        for (int place = 0; place < 100; place++) {
            Told told = new Told();
            for (int i = 0; i < 100; i++) {
                told.newByte(i).oldByte(i == place ? i ^ 1 << i % 8 : i);
            }
            for (int i = 0; i < 100; i++) {
                is("differs at " + place, told, i, i);
            }
            fails("differs at " + place, told, 100);
        }
    }

    /** An empty text is one as well: nothing new makes a DELTA without bytes. */
    private static void oneEmptyText() {
        Told told = new Told();
        fails("both are empty", told, 0);
        for (int length = 1; length <= 200; length++) {
            told.oldByte(0);
            fails("the new one is empty", told, 0);
        }
        Told zero = new Told().newByte(0);
        is("a byte of 0 is one", zero, 0, 0);
        fails("a byte of 0 is one", zero, 1);
        fails("two of them", zero.oldByte(0), 0);
        is("one of them twice", zero.newByte(0), 1, 0);
    }

    /** 200 bytes, read one by one */
    private static void wholeWithoutCutting() {
        Told told = new Told();
        for (int i = 0; i < 200; i++) {
            told.newByte(255 - i);
        }
        for (int i = 0; i < 200; i++) {
            is("200 bytes", told, i, (byte) (255 - i));
        }
        due.is("one more", told.builder.event(15, 1, 1, 0), -4);
        fails("200 bytes", told, 200);
        is("200 bytes", told, 199, 56);
        Told mixed = new Told();
        for (int i = 0; i < 66; i++) {
            mixed.newByte(i).number(i % 64, i).oldByte(200);
        }
        for (int i = 0; i < 66; i++) {
            is("between other events", mixed, i, i);
        }
        fails("between other events", mixed, 66);
    }
}
