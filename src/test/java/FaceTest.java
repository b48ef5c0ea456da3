import java.lang.reflect.Constructor;
import java.lang.reflect.Field;
import java.lang.reflect.Method;
import java.lang.reflect.Modifier;
import java.util.Set;
import java.util.TreeSet;

/** The public face: just the members that the document gives. */
public final class FaceTest {
    public static void main(String[] args) {
        Due due = new Due();
        Set<String> want = new TreeSet<>(Set.of(
                "public static final int PlainBuilder.NONE",
                "public PlainBuilder()",
                "public int PlainBuilder.event(int,long,long,long)",
                "public int PlainBuilder.events()",
                "public long PlainBuilder.value(int) throws java.lang.IllegalStateException",
                "public long PlainBuilder.output(int,int) throws java.lang.IllegalStateException",
                "public int PlainBuilder.solve()",
                "public int PlainBuilder.chosen(int)",
                "public int PlainBuilder.job(int,int)",
                "public int PlainBuilder.ring(int)",
                "public int PlainBuilder.test(int)",
                "public byte PlainBuilder.delta(int)"
                        + " throws java.lang.ArrayIndexOutOfBoundsException"));
        Set<String> got = new TreeSet<>();
        for (Field field : PlainBuilder.class.getDeclaredFields()) {
            if (!Modifier.isPrivate(field.getModifiers())) {
                got.add(field.toString());
            }
        }
        for (Constructor<?> constructor : PlainBuilder.class.getDeclaredConstructors()) {
            got.add(constructor.toString());
        }
        for (Method method : PlainBuilder.class.getDeclaredMethods()) {
            if (!Modifier.isPrivate(method.getModifiers())) {
                got.add(method.toString());
            }
        }
        if (!got.equals(want)) {
            due.tellWrong("the face is " + got + ", due is " + want);
        }
        due.is("NONE", PlainBuilder.NONE, -1);
        int kind = PlainBuilder.class.getModifiers();
        due.is("the class is final", Modifier.isFinal(kind) ? 1 : 0, 1);
        due.is("the class is public", Modifier.isPublic(kind) ? 1 : 0, 1);
        due.end("FaceTest");
    }
}
