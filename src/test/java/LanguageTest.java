import java.io.IOException;
import java.lang.reflect.Constructor;
import java.lang.reflect.Field;
import java.lang.reflect.Method;
import java.lang.reflect.Modifier;
import java.nio.file.Files;
import java.nio.file.Path;
import java.util.ArrayList;
import java.util.List;
import java.util.Set;
import java.util.TreeSet;
import java.util.regex.Matcher;
import java.util.regex.Pattern;

/** The rules of LANGUAGE.md, as far as they can be read off the file and the compiled class. */
public final class LanguageTest {
    private static final Path FILE = Path.of("src/main/java/AncestryNet.java");
    private static final Set<String> EXCEPTIONS = Set.of("IllegalStateException", "IllegalArgumentException",
            "IndexOutOfBoundsException", "ArithmeticException", "UnsupportedOperationException",
            "NoSuchElementException", "RuntimeException");
    private static final Set<Class<?>> CONSTANTS = Set.of(int.class, long.class, boolean.class, char.class,
            String.class, int[].class, long[].class, char[].class, byte[].class);

    private final List<String> lines;
    private final String code;
    private final List<Class<?>> classes = new ArrayList<>();

    private LanguageTest() throws IOException {
        lines = Files.readAllLines(FILE);
        code = withoutCommentsAndTexts(String.join("\n", lines));
        classes.add(AncestryNet.class);
        classes.addAll(List.of(AncestryNet.class.getDeclaredClasses()));
    }

    public static void main(String[] args) throws Exception {
        LanguageTest test = new LanguageTest();
        test.rule1TheFaceHasItsNamesForItself();
        test.rule1ClassesInsideAreStaticAndNotPublic();
        test.rule2NoLambdaAndNoMethodReference();
        test.rule4TheLibraryThatIsListed();
        test.rule5StaticFieldsAreConstants();
        test.rule6ExceptionsAreThrownByTheirForm();
        test.rule6WordsThatAreRuledOut();
        test.rule7TheQueueLooksBeforeItTakesOrPuts();
        test.rule11Sizes();
        test.rule12NoCallMakesRows();
        Expect.end();
    }

    private static String withoutCommentsAndTexts(String text) {
        return text.replaceAll("(?s)/\\*.*?\\*/", "").replaceAll("//[^\n]*", "").replaceAll("\"[^\"\n]*\"", "\"\"");
    }

    // "No private method bears the name of a public one."
    private void rule1TheFaceHasItsNamesForItself() {
        Set<String> shown = new TreeSet<>();
        Set<String> hidden = new TreeSet<>();
        for (Method method : AncestryNet.class.getDeclaredMethods()) {
            (Modifier.isPublic(method.getModifiers()) ? shown : hidden).add(method.getName());
        }
        hidden.retainAll(shown);
        Expect.equal("private methods with a public name", hidden, Set.of());
    }

    private void rule1ClassesInsideAreStaticAndNotPublic() {
        for (Class<?> inside : AncestryNet.class.getDeclaredClasses()) {
            int modifiers = inside.getModifiers();
            Expect.equal(inside + " is static", Modifier.isStatic(modifiers), true);
            Expect.equal(inside + " is public or protected",
                    Modifier.isPublic(modifiers) || Modifier.isProtected(modifiers), false);
        }
    }

    private void rule2NoLambdaAndNoMethodReference() {
        expectNone("->");
        expectNone("::");
    }

    private void rule4TheLibraryThatIsListed() {
        Expect.equal("imports", found("(?m)^import .*$"), Set.of("import java.util.NoSuchElementException;"));
        Expect.equal("the package line", found("(?m)^package .*$"), Set.of());
        Expect.equal("static functions", found("\\b[A-Z][a-z]\\w*\\.\\w+"), Set.of("Integer.bitCount", "Math.max"));
    }

    private void rule5StaticFieldsAreConstants() {
        for (Class<?> type : classes) {
            for (Field field : type.getDeclaredFields()) {
                if (Modifier.isStatic(field.getModifiers())) {
                    Expect.equal(field + " is final", Modifier.isFinal(field.getModifiers()), true);
                    Expect.equal(field + " is a constant", CONSTANTS.contains(field.getType()), true);
                }
            }
        }
        Expect.equal("static blocks", found("static\\s*\\{"), Set.of());
    }

    private void rule6ExceptionsAreThrownByTheirForm() {
        Matcher thrown = Pattern.compile("\\bthrow\\b([^;]*);").matcher(code);
        while (thrown.find()) {
            Matcher form = Pattern.compile(" new (\\w+)\\((\"\")?\\)").matcher(thrown.group(1));
            Expect.equal(thrown.group() + " has the form", form.matches() && EXCEPTIONS.contains(form.group(1)), true);
        }
    }

    private void rule6WordsThatAreRuledOut() {
        for (String word : List.of("finally", "synchronized", "assert", "getMessage", "hashCode")) {
            Expect.equal("the word " + word, found("\\b" + word + "\\b"), Set.of());
        }
    }

    // "an index is looked at before it is used": no call of the face comes to these two ends.
    private void rule7TheQueueLooksBeforeItTakesOrPuts() throws ReflectiveOperationException {
        Class<?> type = Class.forName("AncestryNet$Queue");
        Constructor<?> constructor = type.getDeclaredConstructor();
        constructor.setAccessible(true);
        Object queue = constructor.newInstance();
        Method put = type.getDeclaredMethod("put", int.class, int.class, int.class);
        Method take = type.getDeclaredMethod("take");
        put.setAccessible(true);
        take.setAccessible(true);
        Expect.equal("taken from an empty queue", take.invoke(queue), -1);
        for (int number = 0; number <= 2000; number++) {
            put.invoke(queue, 0, 0, number);
        }
        for (int number = 0; number < 2000; number++) {
            Expect.equal("taken from a full queue", take.invoke(queue), number);
        }
        Expect.equal("taken after the last", take.invoke(queue), -1);
    }

    // "at most seven parameters", "some sixty lines", "some twelve classes", "some twenty fields beside its constants"
    private void rule11Sizes() {
        Expect.equal("at most twelve classes", classes.size() <= 12, true);
        for (Class<?> type : classes) {
            int fields = 0;
            for (Field field : type.getDeclaredFields()) {
                fields += Modifier.isStatic(field.getModifiers()) ? 0 : 1;
            }
            Expect.equal("at most twenty fields in " + type, fields <= 20, true);
            for (Method method : type.getDeclaredMethods()) {
                Expect.equal("at most seven parameters of " + method, method.getParameterCount() <= 7, true);
            }
        }
        Expect.equal("the longest method has at most sixty lines", longestMethod() <= 60, true);
    }

    /** A method begins with a line that is no field and no class, and ends with a brace as far in as that line. */
    private int longestMethod() {
        int longest = 0;
        for (int first = 0; first < lines.size(); first++) {
            Matcher head = Pattern.compile("( {4}| {8})(private|public|void|int|boolean)\\b.*[^;]").matcher(lines.get(first));
            if (head.matches() && !lines.get(first).contains(" class ")) {
                int last = lines.subList(first, lines.size()).indexOf(head.group(1) + "}");
                longest = Math.max(longest, last + 1);
            }
        }
        return longest;
    }

    // What is made is counted: rows are made with the object, and after that just exceptions are.
    private void rule12NoCallMakesRows() {
        for (String line : code.split("\n")) {
            if (line.matches(".*\\bnew\\b.*")) {
                boolean fieldOrThrow = line.matches(" +private final .* = new .*;") || line.matches(" +throw new .*;");
                Expect.equal(line.trim() + " makes a field or an exception", fieldOrThrow, true);
            }
        }
    }

    private void expectNone(String part) {
        Expect.equal("the file has " + part, code.contains(part), false);
    }

    private Set<String> found(String pattern) {
        Set<String> found = new TreeSet<>();
        Matcher matcher = Pattern.compile(pattern).matcher(code);
        while (matcher.find()) {
            found.add(matcher.group());
        }
        return found;
    }
}
