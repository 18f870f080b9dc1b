import java.io.IOException;
import java.lang.reflect.InvocationTargetException;
import java.lang.reflect.Method;
import java.nio.file.Files;
import java.nio.file.Path;
import java.util.ArrayList;
import java.util.List;
import java.util.Map;
import java.util.concurrent.ExecutorService;
import java.util.concurrent.Executors;
import java.util.concurrent.Future;
import java.util.regex.Matcher;
import java.util.regex.Pattern;

/**
 * Breaks the class in one place after the other, as src/test/SENTENCES.md tells, and looks whether each test that is
 * named there fails then; with arguments, for those headings alone that begin as one of them does.
 */
final class Breaks {
    private static final Path CLASS = Path.of("src/main/java/Dramwright.java");
    private static final Path TABLE = Path.of("src/test/SENTENCES.md");
    private static final Pattern LINE = Pattern.compile("- `(.+)` becomes `(.+)`: (.+)");

    private Breaks() {
    }

    /** A change of the class that breaks a sentence, and the tests that fail then. */
    record Break(String heading, String from, String to, List<String> tests) {
        /** How often the class has what is changed; between words, any space and any end of a line is the same. */
        int placesIn(String source) {
            return (int) pattern().matcher(source).results().count();
        }

        String of(String source) {
            return pattern().matcher(source).replaceFirst(Matcher.quoteReplacement(to));
        }

        private Pattern pattern() {
            StringBuilder pattern = new StringBuilder();
            for (String word : from.split(" ")) {
                pattern.append(pattern.length() > 0 ? "\\s+" : "").append(Pattern.quote(word));
            }
            return Pattern.compile(pattern.toString());
        }
    }

    static String source() throws IOException {
        return Files.readString(CLASS);
    }

    /** The breaks of the table, in its order. */
    static List<Break> told() throws IOException {
        List<Break> told = new ArrayList<>();
        String heading = "";
        for (String line : Files.readAllLines(TABLE)) {
            Matcher matcher = LINE.matcher(line);
            if (line.startsWith("### ")) {
                heading = line.substring(4);
            } else if (matcher.matches()) {
                told.add(new Break(heading, matcher.group(1), matcher.group(2), List.of(matcher.group(3).split(", "))));
            }
        }
        return told;
    }

    public static void main(String[] args) throws Exception {
        ExecutorService threads = Executors.newFixedThreadPool(Runtime.getRuntime().availableProcessors());
        List<Future<String>> answers = new ArrayList<>();
        String source = source();
        for (Break one : told()) {
            if (isAsked(one, args)) {
                answers.add(threads.submit(() -> unseen(one, source)));
            }
        }
        int unseen = 0;
        for (Future<String> answer : answers) {
            if (!answer.get().isEmpty()) {
                unseen++;
                System.out.println(answer.get());
            }
        }
        threads.shutdown();
        System.out.println(answers.size() + " breaks, " + unseen + " of them not seen by each test that is named");
        if (unseen > 0) {
            System.exit(1);
        }
    }

    private static boolean isAsked(Break one, String[] asked) {
        for (String beginning : asked) {
            if (one.heading.startsWith(beginning)) {
                return true;
            }
        }
        return asked.length == 0;
    }

    /** Tells the tests that pass though the class is broken, or why it can't be broken so; nothing if all is well. */
    private static String unseen(Break one, String source) throws ReflectiveOperationException {
        if (one.placesIn(source) != 1) {
            return one + " is in the class " + one.placesIn(source) + " times";
        }
        Map<String, byte[]> classes = InMemory.compiled("Dramwright", one.of(source));
        if (classes.isEmpty()) {
            return one + " does not compile";
        }
        ClassLoader loader = new InMemory.Classes(classes);
        for (String test : one.tests) {
            if (passes(loader, test)) {
                return one + " lets pass " + test;
            }
        }
        return "";
    }

    private static boolean passes(ClassLoader loader, String test) throws ReflectiveOperationException {
        int dot = test.indexOf('.');
        Method method = loader.loadClass(test.substring(0, dot)).getDeclaredMethod(test.substring(dot + 1));
        method.setAccessible(true);
        try {
            method.invoke(null);
            return true;
        } catch (InvocationTargetException e) {
            return false;
        }
    }
}
