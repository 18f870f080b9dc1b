import java.io.IOException;
import java.nio.file.Files;
import java.nio.file.Path;
import java.util.Set;
import java.util.TreeSet;
import java.util.regex.Matcher;
import java.util.regex.Pattern;

/** The tables that tell which test holds which sentence of the document. */
final class TablesTest {
    private static final Pattern NAME_OF_A_TEST = Pattern.compile("(\\w+Test)\\.(\\w+)");

    private TablesTest() {
    }

    private static Set<String> testsThatAreThere() {
        Set<String> there = new TreeSet<>();
        for (Class<?> tests : AllTests.CLASSES) {
            AllTests.testsOf(tests).forEach(test -> there.add(AllTests.nameOf(test)));
        }
        return there;
    }

    private static Set<String> testsNamedIn(Path table) throws IOException {
        Set<String> named = new TreeSet<>();
        Matcher matcher = NAME_OF_A_TEST.matcher(Files.readString(table));
        while (matcher.find()) {
            named.add(matcher.group());
        }
        return named;
    }

    static void tableOfEdgesNamesEachTestOfAnEdge() throws IOException {
        Set<String> edges = testsThatAreThere();
        edges.removeIf(name -> !name.startsWith("EdgesOf"));
        edges.removeAll(testsNamedIn(Path.of("src/test/EDGES.md")));
        Check.same("tests that the table leaves out", edges, Set.of());
    }

    static void tableOfEdgesNamesTestsThatAreThere() throws IOException {
        Set<String> named = testsNamedIn(Path.of("src/test/EDGES.md"));
        named.removeAll(testsThatAreThere());
        Check.same("tests that are not there", named, Set.of());
    }
}
