import java.io.IOException;
import java.lang.reflect.Method;
import java.lang.reflect.Modifier;
import java.nio.file.Files;
import java.nio.file.Path;
import java.util.HashMap;
import java.util.Map;
import java.util.regex.Matcher;
import java.util.regex.Pattern;

/** README.md: its example answers what stands behind each line, and it names all methods of the class. */
public final class ReadmeTest {
    private static final Pattern LINE = Pattern.compile("(?:int (\\w+) = )?net\\.(\\w+)\\((.*?)\\);\\s*(?:// (\\w+).*)?");

    private final String readme = Files.readString(Path.of("README.md"));
    private final AncestryNet net = new AncestryNet();
    private final Map<String, Object> names = new HashMap<>(Map.of("true", true, "false", false));
    private int answersCompared = 0;

    private ReadmeTest() throws IOException {
    }

    public static void main(String[] args) throws Exception {
        ReadmeTest test = new ReadmeTest();
        test.theExampleAnswersWhatItSays();
        test.allMethodsAreNamed();
        Expect.end();
    }

    private void theExampleAnswersWhatItSays() throws Exception {
        String example = readme.substring(readme.indexOf("```java") + 7, readme.indexOf("```", readme.indexOf("```java") + 7));
        for (String line : example.split("\n")) {
            Matcher call = LINE.matcher(line);
            if (call.matches()) {
                compare(line, call);
            }
        }
        Expect.equal("answers compared", answersCompared, 7);
    }

    private void compare(String line, Matcher call) throws Exception {
        Object answer = answerTo(call.group(2), call.group(3).split(", "));
        if (call.group(1) != null) {
            names.put(call.group(1), answer);
        } else if (answer != null) {
            answersCompared++;
            Expect.equal(line, answer, valueOf(call.group(4)));
        }
    }

    private Object answerTo(String name, String[] arguments) throws Exception {
        Object[] values = new Object[arguments.length];
        for (int place = 0; place < values.length; place++) {
            values[place] = valueOf(arguments[place]);
        }
        for (Method method : AncestryNet.class.getMethods()) {
            if (method.getName().equals(name)) {
                return method.invoke(net, values);
            }
        }
        throw new IllegalStateException("README.md calls " + name);
    }

    private Object valueOf(String text) {
        Object named = names.get(text);
        return named == null ? Integer.valueOf(text) : named;
    }

    private void allMethodsAreNamed() {
        for (Method method : AncestryNet.class.getDeclaredMethods()) {
            if (Modifier.isPublic(method.getModifiers())) {
                Expect.equal("README.md names " + method.getName(), readme.contains("`" + method.getName() + "("), true);
            }
        }
    }
}
