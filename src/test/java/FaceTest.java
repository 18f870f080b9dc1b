import java.io.IOException;
import java.lang.reflect.Constructor;
import java.lang.reflect.Field;
import java.lang.reflect.Member;
import java.lang.reflect.Method;
import java.lang.reflect.Modifier;
import java.nio.file.Files;
import java.nio.file.Path;
import java.util.HashSet;
import java.util.Set;
import java.util.TreeSet;
import java.util.regex.Matcher;
import java.util.regex.Pattern;

/** The public face, and the rules of LANGUAGE.md that can be seen from outside the code. */
final class FaceTest {
    private static final String[] FACE = {
        "int distance(char,int) IllegalArgumentException IllegalStateException",
        "int policy(char,int) IllegalArgumentException",
        "char rows(char) IllegalArgumentException",
        "int master(int,int,int) IndexOutOfBoundsException IllegalArgumentException",
        "int map(int,boolean) IllegalArgumentException IllegalStateException",
        "int place(int,char) IndexOutOfBoundsException IllegalArgumentException",
        "char code(char) IllegalArgumentException IllegalStateException",
        "boolean slow(boolean) IllegalStateException",
        "int warmth(int) IllegalArgumentException",
        "int read(int,int) IndexOutOfBoundsException IllegalStateException",
        "int write(int,int,int,int,boolean) IndexOutOfBoundsException IllegalArgumentException IllegalStateException",
        "int go(int) IllegalArgumentException",
        "int finish(int) IllegalArgumentException",
        "char state(int) IndexOutOfBoundsException",
        "int valueOf(int) IndexOutOfBoundsException NoSuchElementException",
        "char flagOf(int) IndexOutOfBoundsException NoSuchElementException",
        "long doneAt(int) IndexOutOfBoundsException NoSuchElementException",
        "int waited(int) IndexOutOfBoundsException",
        "int queued(boolean)",
        "long cycle()",
        "boolean isDraining()",
        "int openRow(int,int) IndexOutOfBoundsException",
        "int owed(int) IndexOutOfBoundsException",
        "boolean rests(int) IndexOutOfBoundsException",
        "int learned(int,int) IndexOutOfBoundsException",
        "int opened(int,int,int) IndexOutOfBoundsException",
        "int guarded()",
        "int commands()",
        "int command(int,char) IndexOutOfBoundsException IllegalArgumentException",
        "char judge(char,int,int,int) IndexOutOfBoundsException IllegalArgumentException",
        "int judged()",
        "boolean isLawful()",
        "int stick(int,int,int,int,int,boolean) IndexOutOfBoundsException IllegalArgumentException IllegalStateException",
        "int fade(int,int,int,int,int,int) IndexOutOfBoundsException IllegalArgumentException IllegalStateException",
        "int flip(int,int,int,int,int) IndexOutOfBoundsException IllegalArgumentException",
        "int eye(int,int,int) IndexOutOfBoundsException IllegalArgumentException",
        "boolean train(int) IndexOutOfBoundsException",
        "int delay(int) IndexOutOfBoundsException",
        "int faults(int,int,int) IndexOutOfBoundsException",
        "int spares(int,int) IndexOutOfBoundsException",
        "long energy()",
        "long waits(char) IllegalArgumentException",
        "int mended()",
        "int lost()",
        "int patrolled()",
        "float hitShare() ArithmeticException",
        "double meanDelay() ArithmeticException",
        "boolean isConsistent()",
    };
    private static final int MOST_CLASSES = 12;
    private static final int MOST_FIELDS = 20;
    private static final int MOST_PARAMETERS = 7;
    private static final int MOST_LINES = 60;

    private FaceTest() {
    }

    static void faceIsTheDocuments() {
        Set<String> due = new TreeSet<>();
        for (String line : FACE) {
            due.add(line);
        }
        Set<String> got = new TreeSet<>();
        for (Method method : Dramwright.class.getDeclaredMethods()) {
            if (!Modifier.isPrivate(method.getModifiers()) && !method.isSynthetic()) {
                got.add(signature(method));
                Check.isTrue(method.getName() + " is public", Modifier.isPublic(method.getModifiers()));
                Check.isFalse(method.getName() + " is static", Modifier.isStatic(method.getModifiers()));
            }
        }
        Check.same("the face", got, due);
        Check.isTrue("the class is public and final",
            Modifier.isPublic(Dramwright.class.getModifiers()) && Modifier.isFinal(Dramwright.class.getModifiers()));
        Check.same("constructors", Dramwright.class.getDeclaredConstructors().length, 1);
        for (Constructor<?> constructor : Dramwright.class.getConstructors()) {
            Check.same("parameters of the constructor", constructor.getParameterCount(), 0);
        }
        for (Field field : Dramwright.class.getDeclaredFields()) {
            Check.isTrue(field.getName() + " is private", Modifier.isPrivate(field.getModifiers()));
        }
    }

    private static String signature(Method method) {
        StringBuilder text = new StringBuilder();
        text.append(method.getReturnType().getSimpleName()).append(' ').append(method.getName()).append('(');
        for (int i = 0; i < method.getParameterCount(); i++) {
            text.append(i > 0 ? "," : "").append(method.getParameterTypes()[i].getSimpleName());
        }
        text.append(')');
        for (Class<?> thrown : method.getExceptionTypes()) {
            text.append(' ').append(thrown.getSimpleName());
        }
        return text.toString();
    }

    static void classesKeepTheirLimits() {
        Set<String> publicNames = new HashSet<>();
        for (String line : FACE) {
            publicNames.add(line.substring(line.indexOf(' ') + 1, line.indexOf('(')));
        }
        Class<?>[] inside = Dramwright.class.getDeclaredClasses();
        Check.isTrue("classes of the file", inside.length + 1 <= MOST_CLASSES);
        keepsLimits(Dramwright.class, publicNames);
        for (Class<?> one : inside) {
            Check.isTrue(one.getSimpleName() + " is static", Modifier.isStatic(one.getModifiers()));
            Check.isFalse(one.getSimpleName() + " is public", Modifier.isPublic(one.getModifiers()));
            keepsLimits(one, publicNames);
        }
    }

    /** The table of boundary cases names no test that is not there, and leaves out none of those for edges. */
    static void tableOfEdgesIsWhole() throws IOException {
        Set<String> named = new TreeSet<>();
        Matcher matcher = Pattern.compile("(\\w+Test)\\.(\\w+)").matcher(Files.readString(Path.of("src/test/EDGES.md")));
        while (matcher.find()) {
            named.add(matcher.group());
        }
        Set<String> there = new TreeSet<>();
        for (Class<?> tests : AllTests.CLASSES) {
            for (Method test : AllTests.testsOf(tests)) {
                String name = tests.getSimpleName() + "." + test.getName();
                there.add(name);
                Check.isTrue("the table has " + name, named.contains(name) || !name.startsWith("EdgesOf"));
            }
        }
        for (String name : named) {
            Check.isTrue("there is " + name, there.contains(name));
        }
    }

    private static void keepsLimits(Class<?> one, Set<String> publicNames) {
        int fields = 0;
        for (Field field : one.getDeclaredFields()) {
            if (isStatic(field)) {
                Check.isTrue(field.getName() + " is final", Modifier.isFinal(field.getModifiers()));
            } else {
                fields++;
            }
        }
        Check.isTrue("fields of " + one.getSimpleName() + ": " + fields, fields <= MOST_FIELDS);
        for (Method method : one.getDeclaredMethods()) {
            if (method.isSynthetic()) {
                continue;
            }
            Check.isTrue("parameters of " + method.getName(), method.getParameterCount() <= MOST_PARAMETERS);
            Check.isFalse(method.getName() + " bears the name of a public one",
                !Modifier.isPublic(method.getModifiers()) && publicNames.contains(method.getName()));
        }
    }

    private static boolean isStatic(Member member) {
        return Modifier.isStatic(member.getModifiers());
    }

    static void sourceKeepsToItsPartOfJava() throws IOException {
        String source = Files.readString(Path.of("src/main/java/Dramwright.java"));
        String code = source.replaceAll("(?s)/\\*.*?\\*/", "").replaceAll("//[^\n]*", "");
        String[] forbidden = {
            "->", "::", "\\bfinally\\b", "\\bcatch\\b", "\\bsynchronized\\b", "\\bassert\\b", "\\bprotected\\b",
            "\\bSystem\\.(?!arraycopy)", "\\bThread\\b", "\\bMath\\.\\w*Exact\\b", "\\bObject\\b", "\\bRandom\\b",
            "\\bInteger\\.MAX_VALUE\\b", "\\bArrays\\.(?!fill|copyOf)", "\\[\\]\\[\\]",
        };
        for (String pattern : forbidden) {
            Matcher matcher = Pattern.compile(pattern).matcher(code);
            Check.isFalse("the source has " + pattern, matcher.find());
        }
        for (int i = 0; i < source.length(); i++) {
            Check.isTrue("sign " + i + " is 10 or 32 to 126", source.charAt(i) == 10
                || source.charAt(i) >= 32 && source.charAt(i) <= 126);
        }
        methodsAreShort(source.split("\n"));
    }

    /** A method's head stands at the depth of a class's members, and so does its last brace. */
    private static void methodsAreShort(String[] lines) {
        int head = -1;
        for (int i = 0; i < lines.length; i++) {
            if (lines[i].matches(" {4}( {4})?[\\w<>\\[\\]]+ .*\\(.*\\{|.* class .*\\{")) {
                head = i;
            }
            if (head >= 0 && lines[i].matches(" {4}( {4})?\\}")) {
                Check.isTrue("lines of the method at " + (head + 1), i - head + 1 <= MOST_LINES);
                head = -1;
            }
        }
    }
}
