import java.io.IOException;
import java.lang.reflect.Executable;
import java.lang.reflect.Field;
import java.lang.reflect.Method;
import java.lang.reflect.Modifier;
import java.nio.file.Files;
import java.nio.file.Path;
import java.util.ArrayDeque;
import java.util.ArrayList;
import java.util.Arrays;
import java.util.Deque;
import java.util.HashSet;
import java.util.List;
import java.util.Set;
import java.util.regex.MatchResult;
import java.util.regex.Matcher;
import java.util.regex.Pattern;

/**
 * The rules of ../shared/LANGUAGE.md as far as they can be seen in the class's text and its
 * members. It is narrower than they are where the class uses less than it may. It runs in the
 * project's directory.
 */
public final class LanguageTest {
    private static final Path SOURCE = Path.of("src/main/java/PlainBuilder.java");
    private static final Set<String> FACE = Set.of("event", "events", "value", "output", "solve",
            "chosen", "job", "ring", "test", "delta");

    private static final Due due = new Due();

    public static void main(String[] args) throws IOException {
        String text = withoutTexts(Files.readString(SOURCE));
        List<Class<?>> classes = new ArrayList<>(List.of(PlainBuilder.class));
        classes.addAll(Arrays.asList(PlainBuilder.class.getDeclaredClasses()));
        oneFile(text);
        classesInside(classes);
        fields(classes);
        methods(classes);
        library(text);
        forbiddenWords(text);
        exceptions(text);
        objects(text, classes);
        loops(text);
        lengths(text);
        due.end("LanguageTest");
    }

    /** The source without its comments, and with empty texts, since words in those are no code. */
    private static String withoutTexts(String source) {
        return source.replaceAll("\"[^\"\n]*\"", "\"\"").replaceAll("//[^\n]*", "")
                .replaceAll("(?s)/\\*.*?\\*/", "");
    }

    private static void holds(String what, boolean holds) {
        due.is(what, holds ? 1 : 0, 1);
    }

    private static List<MatchResult> find(String pattern, String text) {
        Matcher matcher = Pattern.compile(pattern).matcher(text);
        List<MatchResult> all = new ArrayList<>();
        while (matcher.find()) {
            all.add(matcher.toMatchResult());
        }
        return all;
    }

    /** The head: "without a package line", one public class */
    private static void oneFile(String text) {
        holds("no package line", find("\\bpackage\\b", text).isEmpty());
        due.is("public classes", find("\\bpublic (final )?class\\b", text).size(), 1);
    }

    /** Rules 1, 2 and 11: static nested classes, none public, at most some twelve */
    private static void classesInside(List<Class<?>> classes) {
        holds("at most twelve classes", classes.size() <= 12);
        for (Class<?> each : classes.subList(1, classes.size())) {
            int kind = each.getModifiers();
            String name = each.getSimpleName();
            holds(name + " is static", Modifier.isStatic(kind));
            holds(name + " is not public", !Modifier.isPublic(kind));
            holds(name + " is not protected", !Modifier.isProtected(kind));
            due.is("classes inside " + name, each.getDeclaredClasses().length, 0);
        }
    }

    /** Rules 3, 5 and 11: the types of fields, no static state, at most some twenty */
    private static void fields(List<Class<?>> classes) {
        for (Class<?> each : classes) {
            int own = 0;
            for (Field field : each.getDeclaredFields()) {
                Class<?> type = field.getType();
                String name = each.getSimpleName() + "." + field.getName();
                if (Modifier.isStatic(field.getModifiers())) {
                    holds(name + " is final", Modifier.isFinal(field.getModifiers()));
                    holds(name + " is an int", type == int.class);
                } else {
                    own++;
                    holds(name + " has a type of rule 3", classes.contains(type)
                            || type.isPrimitive()
                            || type.isArray() && type.getComponentType().isPrimitive());
                    holds(name + " is private", Modifier.isPrivate(field.getModifiers()));
                }
            }
            holds(each.getSimpleName() + " has at most twenty fields", own <= 20);
        }
    }

    /** Rules 1 and 11: names of private methods, at most seven parameters */
    private static void methods(List<Class<?>> classes) {
        for (Class<?> each : classes) {
            List<Executable> all = new ArrayList<>(Arrays.asList(each.getDeclaredMethods()));
            all.addAll(Arrays.asList(each.getDeclaredConstructors()));
            for (Executable method : all) {
                String name = each.getSimpleName() + "." + method.getName();
                holds(name + " has at most seven parameters", method.getParameterCount() <= 7);
                holds(name + " has no public method's name", !(method instanceof Method)
                        || each == PlainBuilder.class && Modifier.isPublic(method.getModifiers())
                        || !FACE.contains(method.getName()));
                holds(name + " is not synchronized",
                        !Modifier.isSynchronized(method.getModifiers()));
            }
        }
    }

    /** Rules 4 and 13: nothing of the library but these */
    private static void library(String text) {
        Set<String> imports = Set.of("java.util.Arrays");
        for (MatchResult each : find("\\bimport ([\\w.]+);", text)) {
            holds("import " + each.group(1), imports.contains(each.group(1)));
        }
        Set<String> allowed = Set.of("Arrays.fill", "Integer.bitCount");
        for (MatchResult each : find("\\b([A-Z]\\w*\\.\\w+)", text.replaceAll("import.*", ""))) {
            holds(each.group(1), allowed.contains(each.group(1)));
        }
        for (MatchResult each : find("\\bjava\\.\\w+", text.replaceAll("import.*", ""))) {
            holds("no full name: " + each.group(), false);
        }
    }

    /** Rules 2, 3, 5, 6 and 10 */
    private static void forbiddenWords(String text) {
        String[] words = {"try", "catch", "finally", "synchronized", "assert", "double", "float",
            "instanceof", "native", "volatile", "transient", "protected", "goto", "var", "yield",
            "equals", "hashCode", "toString", "getClass", "wait", "notify", "this", "super"};
        for (String word : words) {
            holds("no " + word, find("\\b" + word + "\\b", text).isEmpty());
        }
        holds("no lambda, no method reference", find("->|::", text).isEmpty());
        holds("no static initialiser block", find("\\bstatic\\s*\\{", text).isEmpty());
        holds("no joining of texts by +", find("\"\\s*\\+|\\+\\s*\"", text).isEmpty());
        holds("no two dimensions", find("\\[\\]\\s*\\[", text).isEmpty());
    }

    /** Rule 6, and the exception that the document names beside those of its list */
    private static void exceptions(String text) {
        Set<String> allowed = Set.of("throw new IllegalStateException(\"\");",
                "throw new ArrayIndexOutOfBoundsException(\"\");");
        List<MatchResult> all = find("\\bthrow\\b[^;]*;", text);
        due.is("throws of the face", all.size(), 3);
        for (MatchResult each : all) {
            holds(each.group(), allowed.contains(each.group()));
        }
    }

    /** Rule 12: rows are made in constructors alone, so that a call makes nothing that is kept */
    private static void objects(String text, List<Class<?>> classes) {
        Set<String> finals = new HashSet<>();
        for (Class<?> each : classes) {
            for (Field field : each.getDeclaredFields()) {
                if (Modifier.isFinal(field.getModifiers())) {
                    finals.add(field.getName());
                }
            }
        }
        for (MatchResult each : find("([^\n;{]*)\\bnew\\b", text)) {
            String before = each.group(1).trim();
            holds("new behind '" + before + "'", before.equals("throw")
                    || before.endsWith(" =") && finals.contains(before.replace(" =", "")));
        }
    }

    /** Rule 9: loops are counters against a bound */
    private static void loops(String text) {
        holds("no while", find("\\bwhile\\b|\\bdo\\b", text).isEmpty());
        for (MatchResult each : find("\\bfor \\(([^;]*);([^;]*);([^{]*)\\)", text)) {
            String counter = each.group(1).replaceAll("^int (\\w+) = .*$", "$1");
            holds(each.group() + " has a counter", each.group(1).startsWith("int "));
            holds(each.group() + " has a bound",
                    find("\\b" + counter + " (<|<=|>=) [\\w.()]+$", each.group(2)).size() == 1);
            holds(each.group() + " goes on", each.group(3).trim().equals(counter + "++")
                    || each.group(3).trim().equals(counter + "--"));
        }
    }

    /** Rule 11: methods stay short. A method is what stands in braces straight inside a class. */
    private static void lengths(String text) {
        Deque<String> open = new ArrayDeque<>(List.of(""));
        int start = 0;
        int number = 0;
        for (String line : text.split("\n")) {
            number++;
            for (char each : line.toCharArray()) {
                if (each == '{') {
                    start = open.peek().contains(" class ") ? number : start;
                    open.push(line);
                } else if (each == '}') {
                    boolean method = !open.pop().contains(" class ");
                    if (method && open.peek().contains(" class ")) {
                        holds("line " + start + " begins a short method", number - start < 60);
                    }
                }
            }
        }
        due.is("braces that are open", open.size(), 1);
    }
}
