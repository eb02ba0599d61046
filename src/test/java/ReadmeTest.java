import java.io.IOException;
import java.lang.reflect.Method;
import java.lang.reflect.Modifier;
import java.nio.file.Files;
import java.nio.file.Path;
import java.util.Arrays;
import java.util.regex.Matcher;
import java.util.regex.Pattern;

/** README.md: its example answers what stands behind each call there, and it names every call. */
public final class ReadmeTest {
    private static final Check CHECK = new Check("ReadmeTest");
    private static final Pattern EXAMPLE = Pattern.compile("(?s)```java\n(.*?)```");
    private static final Pattern TYPED = Pattern.compile("for \\(char c : \"(.*)\"\\.toCharArray\\(\\)\\) "
            + "x\\.letter\\(c\\);");
    private static final Pattern CALL = Pattern.compile("x\\.(\\w+)\\((.*)\\); +// (-?\\w+).*");

    public static void main(String[] args) throws IOException {
        String readme = Files.readString(Path.of("README.md"));
        everyCallIsNamed(readme);
        Matcher example = EXAMPLE.matcher(readme);
        CHECK.holds("an example", example.find());
        follow(example.group(1));
        CHECK.end();
    }

    private static void everyCallIsNamed(String readme) {
        for (Method method : NearPhrases.class.getDeclaredMethods()) {
            if (Modifier.isPublic(method.getModifiers())) {
                CHECK.holds("that it names " + method.getName() + "()",
                        readme.contains("| `" + method.getName() + "("));
            }
        }
    }

    private static void follow(String example) {
        NearPhrases x = new NearPhrases();
        int calls = 0;
        for (String line : example.split("\n")) {
            Matcher typed = TYPED.matcher(line);
            Matcher call = CALL.matcher(line);
            if (typed.matches()) {
                Check.type(x, typed.group(1));
            } else if (call.matches()) {
                CHECK.due(line, answer(x, call.group(1), call.group(2)), told(call.group(3)));
                calls++;
            } else {
                CHECK.holds("that it is understood: " + line, line.equals("NearPhrases x = new NearPhrases();"));
            }
        }
        CHECK.holds("some calls with answers", calls > 0);
    }

    private static long told(String answer) {
        try {
            return answer.matches("-?\\d+") ? Long.parseLong(answer) : NearPhrases.class.getField(answer).getInt(null);
        } catch (ReflectiveOperationException e) {
            throw new IllegalStateException(answer, e);
        }
    }

    private static long answer(NearPhrases x, String name, String arguments) {
        Object[] numbers = arguments.isEmpty() ? new Object[0]
                : Arrays.stream(arguments.split(", ")).map(ReadmeTest::argument).toArray();
        Class<?>[] types = new Class<?>[numbers.length];
        Arrays.fill(types, int.class);
        try {
            return ((Number) NearPhrases.class.getMethod(name, types).invoke(x, numbers)).longValue();
        } catch (ReflectiveOperationException e) {
            throw new IllegalStateException(name, e);
        }
    }

    /** A number, or a letter as it stands in Java. */
    private static int argument(String text) {
        return text.startsWith("'") ? text.charAt(1) : Integer.parseInt(text);
    }
}
