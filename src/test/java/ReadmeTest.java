import java.io.IOException;
import java.lang.reflect.Method;
import java.nio.file.Files;
import java.nio.file.Path;
import java.util.Set;
import java.util.TreeSet;
import java.util.regex.Matcher;
import java.util.regex.Pattern;

/** The example in README.md: each call answers what the number behind it says. */
public final class ReadmeTest {
    private static final Pattern CALL =
            Pattern.compile("house\\.(\\w+)\\(([-\\d, ]*)\\);\\s*// (-?\\d+).*");

    private static final Due due = new Due();

    public static void main(String[] args) throws IOException, ReflectiveOperationException {
        PlainBuilder house = new PlainBuilder();
        Set<String> called = new TreeSet<>();
        for (String line : Files.readAllLines(Path.of("README.md"))) {
            Matcher call = CALL.matcher(line);
            if (call.matches()) {
                called.add(call.group(1));
                due.is(line, answer(house, call.group(1), call.group(2)),
                        Long.parseLong(call.group(3)));
            }
        }
        for (Method method : PlainBuilder.class.getMethods()) {
            if (method.getDeclaringClass() == PlainBuilder.class) {
                due.is(method.getName() + " is in the example",
                        called.contains(method.getName()) ? 1 : 0, 1);
            }
        }
        due.end("ReadmeTest");
    }

    private static long answer(PlainBuilder house, String name, String numbers)
            throws ReflectiveOperationException {
        for (Method method : PlainBuilder.class.getMethods()) {
            if (method.getName().equals(name)) {
                return ((Number) method.invoke(house, arguments(method, numbers))).longValue();
            }
        }
        throw new NoSuchMethodException(name);
    }

    private static Object[] arguments(Method method, String numbers) {
        Class<?>[] types = method.getParameterTypes();
        String[] each = numbers.split(", *");
        Object[] all = new Object[types.length];
        for (int i = 0; i < all.length; i++) {
            long number = Long.parseLong(each[i]);
            if (types[i] == int.class) {
                all[i] = (int) number;
            } else {
                all[i] = number;
            }
        }
        return all;
    }
}
