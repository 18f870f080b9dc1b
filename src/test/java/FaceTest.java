import java.io.IOException;
import java.lang.reflect.Constructor;
import java.lang.reflect.Field;
import java.lang.reflect.Method;
import java.lang.reflect.Modifier;
import java.nio.file.Files;
import java.nio.file.Path;
import java.util.ArrayList;
import java.util.List;
import java.util.Set;
import java.util.TreeSet;
import java.util.regex.Matcher;
import java.util.regex.Pattern;

/** The public face, held against the one that the document writes out. */
final class FaceTest {
    private static final String CALL = "(?m)^    public (\\w+) (\\w+)\\(([^)]*)\\)\\s*(?:throws ([\\w, ]+?))?\\s*[;{]";

    private FaceTest() {
    }

    private static String source() throws IOException {
        return Files.readString(Path.of("src/main/java/Dramwright.java"));
    }

    /** The part of the document from one text to the next one behind it. */
    private static String part(String from, String to) throws IOException {
        String document = Files.readString(Path.of("../shared/DOC.md"));
        int begin = document.indexOf(from);
        int end = document.indexOf(to, begin + from.length());
        Check.isTrue("the document has " + from, begin >= 0 && end > begin);
        return document.substring(begin + from.length(), end);
    }

    /** The calls as a source writes them, each as its type, its name, the types of its arguments and its exceptions. */
    private static List<String> calls(String text) {
        List<String> calls = new ArrayList<>();
        Matcher matcher = Pattern.compile(CALL).matcher(text);
        while (matcher.find()) {
            StringBuilder call = new StringBuilder(matcher.group(1)).append(' ').append(matcher.group(2));
            for (String argument : matcher.group(3).split(",")) {
                call.append(' ').append(argument.trim());
            }
            for (String thrown : matcher.group(4) == null ? new String[0] : matcher.group(4).split(",")) {
                call.append(" throws ").append(thrown.trim());
            }
            calls.add(call.toString());
        }
        return calls;
    }

    static void callsAreWrittenAsInTheDocument() throws IOException {
        List<String> due = calls(part("```java", "```"));
        Check.same("calls of the document", due.size(), 48);
        Check.same("calls, their arguments and exceptions, in their order", calls(source()), due);
    }

    static void nothingElseIsSeenFromOutside() throws IOException {
        Set<String> due = new TreeSet<>();
        for (String call : calls(part("```java", "```"))) {
            due.add(call.split(" ")[1]);
        }
        Set<String> got = new TreeSet<>();
        for (Method method : Dramwright.class.getDeclaredMethods()) {
            if (!Modifier.isPrivate(method.getModifiers()) && !method.isSynthetic()) {
                got.add(method.getName());
                Check.same("modifiers of " + method.getName(), method.getModifiers(), Modifier.PUBLIC);
            }
        }
        Check.same("methods", got, due);
        Check.same("constructors", Dramwright.class.getDeclaredConstructors().length, 1);
        for (Constructor<?> constructor : Dramwright.class.getConstructors()) {
            Check.same("arguments of the constructor", constructor.getParameterCount(), 0);
        }
        for (Field field : Dramwright.class.getDeclaredFields()) {
            Check.isTrue(field.getName() + " is private", Modifier.isPrivate(field.getModifiers()));
        }
        Check.same("modifiers of the class", Dramwright.class.getModifiers(), Modifier.PUBLIC | Modifier.FINAL);
        Check.same("interfaces", Dramwright.class.getInterfaces().length, 0);
        Check.same("the class above", Dramwright.class.getSuperclass(), Object.class);
    }

    /** The document tells what stands ahead of which calls: each of them is under that heading, in that order. */
    static void callsStandUnderTheirHeadings() throws IOException {
        Matcher told = Pattern.compile("Ahead of the calls (.*?) the interface says: (---- [a-z ]+)\\.")
            .matcher(part("## Terms", "## Promise 1:"));
        StringBuilder due = new StringBuilder();
        while (told.find()) {
            due.append(told.group(2)).append('\n').append(told.group(1).replace("`", "").replace(", ", "\n")).append('\n');
        }
        StringBuilder got = new StringBuilder();
        String heading = "";
        Matcher found = Pattern.compile("(?m)^    // (---- [a-z ]+)$|^    public \\w+ (\\w+)\\(").matcher(source());
        while (found.find()) {
            if (found.group(1) != null) {
                heading = found.group(1) + '\n';
                continue;
            }
            got.append(heading).append(found.group(2)).append('\n');
            heading = "";
        }
        Check.same("headings and calls", got.toString(), due.toString());
    }
}
