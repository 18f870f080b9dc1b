import java.lang.reflect.InvocationTargetException;
import java.lang.reflect.Method;
import java.lang.reflect.Modifier;
import java.util.ArrayList;
import java.util.Comparator;
import java.util.List;

/**
 * Runs each static method without arguments, not private, of the test classes as one test; with arguments, those
 * tests alone whose names, such as OrderTest.olderOnesGoFirst, begin as one of the arguments does.
 */
public final class AllTests {
    static final Class<?>[] CLASSES = {
        FaceTest.class, SettingsTest.class, RequestsTest.class, ChipsTest.class, FaultsTest.class,
        AccountsTest.class, OrderTest.class, RefreshTest.class, CodesTest.class, RulesTest.class, FuzzTest.class,
        ModelTest.class,
        EdgesOfSettingsTest.class, EdgesOfRequestsTest.class, EdgesOfChipsTest.class,
        EdgesOfFaultsTest.class, EdgesOfAccountsTest.class,
        EdgesOfPlacesTest.class, EdgesOfDistancesTest.class, EdgesOfOrderTest.class,
        EdgesOfRefreshTest.class, ReadingsTest.class, LanguageTest.class, ReadmeTest.class,
        TablesTest.class,
    };

    private AllTests() {
    }

    public static void main(String[] args) throws IllegalAccessException {
        int passed = 0;
        int failed = 0;
        for (Class<?> tests : CLASSES) {
            for (Method test : testsOf(tests)) {
                if (!isAsked(test, args)) {
                    continue;
                }
                if (passes(test)) {
                    passed++;
                } else {
                    failed++;
                }
            }
        }
        System.out.println(passed + " passed, " + failed + " failed");
        if (failed > 0 || passed == 0) {
            System.exit(1);
        }
    }

    private static boolean isAsked(Method test, String[] asked) {
        for (String beginning : asked) {
            if (nameOf(test).startsWith(beginning)) {
                return true;
            }
        }
        return asked.length == 0;
    }

    static String nameOf(Method test) {
        return test.getDeclaringClass().getSimpleName() + "." + test.getName();
    }

    /** The tests of a class, by their names. */
    static List<Method> testsOf(Class<?> tests) {
        List<Method> found = new ArrayList<>();
        for (Method method : tests.getDeclaredMethods()) {
            boolean isTest = Modifier.isStatic(method.getModifiers())
                && !Modifier.isPrivate(method.getModifiers())
                && !method.isSynthetic()
                && method.getParameterCount() == 0;
            if (isTest) {
                found.add(method);
            }
        }
        found.sort(Comparator.comparing(Method::getName));
        return found;
    }

    private static boolean passes(Method method) throws IllegalAccessException {
        try {
            method.setAccessible(true);
            method.invoke(null);
            return true;
        } catch (InvocationTargetException e) {
            Throwable cause = e.getCause();
            System.out.println(nameOf(method) + ": " + cause);
            if (!(cause instanceof AssertionError)) {
                cause.printStackTrace(System.out);
            }
            return false;
        }
    }
}
