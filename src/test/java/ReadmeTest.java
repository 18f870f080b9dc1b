import java.io.IOException;
import java.lang.reflect.InvocationTargetException;
import java.nio.file.Files;
import java.nio.file.Path;
import java.util.Map;
import java.util.regex.Matcher;
import java.util.regex.Pattern;

/** What README.md says of use; that its commands run is seen by .ci/run, which runs them. */
final class ReadmeTest {
    private static final Pattern EXAMPLE = Pattern.compile("(?s)```java\n(.*?)```");
    /** A call that stands alone, and its answer as the remark behind it tells: a number or a sign. */
    private static final Pattern ANSWERED = Pattern.compile("(?m)^(chips\\..*);\\s*// (-?\\d+|'.'|true|false)$");

    private ReadmeTest() {
    }

    static void theExampleAnswersAsItSays() throws IOException, ReflectiveOperationException {
        Matcher example = EXAMPLE.matcher(Files.readString(Path.of("README.md")));
        Check.isTrue("there is an example", example.find());
        Matcher answered = ANSWERED.matcher(example.group(1));
        Check.isTrue("with some answers", answered.results().count() >= 4);
        String body = answered.replaceAll("Check.same(\"an answer\", $1, $2);");
        Map<String, byte[]> classes = InMemory.compiled("Example",
            "public final class Example { public static void run() {\n" + body + "} }");
        Check.isFalse("it compiles", classes.isEmpty());
        run(new InMemory.Classes(classes).loadClass("Example"));
    }

    private static void run(Class<?> example) throws ReflectiveOperationException {
        try {
            example.getMethod("run").invoke(null);
        } catch (InvocationTargetException e) {
            throw new AssertionError(e.getCause().toString());
        }
    }
}
