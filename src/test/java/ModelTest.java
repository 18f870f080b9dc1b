import java.lang.reflect.InvocationTargetException;
import java.lang.reflect.Method;
import java.util.Arrays;
import java.util.HashMap;
import java.util.Map;
import java.util.Objects;
import java.util.Random;

/** Random runs of calls, each answered by the class as by the model. */
final class ModelTest {
    private static final int CALLS = 500;
    private static final String POLICIES = "ulbihrpgas";
    private static final Map<String, Method> OF_THE_CLASS = methods(Dramwright.class);
    private static final Map<String, Method> OF_THE_MODEL = methods(Model.class);

    private final Random random;
    private final Dramwright keeper = new Dramwright();
    private final Model model = new Model();
    private final String name;
    /** What a run is mostly about: how far its addresses spread, and how often it comes to settings and faults. */
    private final int spread;
    private final boolean changes;
    private final boolean hasFaults;
    /** Whether few requests come, so that ranks rest and refresh is drawn ahead. */
    private final boolean isCalm;
    private int calls;

    private ModelTest(int seed) {
        name = "seed " + seed;
        random = new Random(seed);
        spread = 1 + random.nextInt(4);
        changes = random.nextInt(3) == 0;
        hasFaults = random.nextInt(2) == 0;
        isCalm = random.nextInt(3) == 0;
    }

    static void runsAnswerAsTheModel() {
        for (int seed = 0; seed < 60; seed++) {
            new ModelTest(seed).run();
        }
    }

    /** Runs with seeds from the first argument to the second one. */
    public static void main(String[] args) {
        for (int seed = Integer.parseInt(args[0]); seed < Integer.parseInt(args[1]); seed++) {
            new ModelTest(seed).run();
        }
    }

    private static Map<String, Method> methods(Class<?> owner) {
        Map<String, Method> found = new HashMap<>();
        for (Method method : owner.getDeclaredMethods()) {
            method.setAccessible(true);
            if (!method.isSynthetic()) {
                found.put(method.getName(), method);
            }
        }
        return found;
    }

    private static Object answer(Method method, Object of, Object[] arguments) {
        try {
            return method.invoke(of, arguments);
        } catch (InvocationTargetException e) {
            return e.getCause().getClass().getSimpleName();
        } catch (IllegalAccessException e) {
            throw new AssertionError(e);
        }
    }

    /** Makes a call of both; what is out of range is for the class alone. */
    private Object ask(String call, Object... arguments) {
        calls++;
        Object got = answer(OF_THE_CLASS.get(call), keeper, arguments);
        if ("IllegalArgumentException".equals(got) || "IndexOutOfBoundsException".equals(got)) {
            return got;
        }
        Object due = answer(OF_THE_MODEL.get(call), model, arguments);
        if (!Objects.equals(got, due)) {
            Check.same(name + ", call " + calls + ", " + call + Arrays.toString(arguments), got, due);
        }
        return got;
    }

    private int one(int... choices) {
        return choices[random.nextInt(choices.length)];
    }

    private boolean isOneOf(int many) {
        return random.nextInt(many) == 0;
    }

    private void run() {
        tellSettings();
        while (calls < CALLS) {
            call();
        }
        compareAll();
    }

    private void tellSettings() {
        for (char which = 'A'; which <= 'S'; which++) {
            if (isOneOf(changes ? 3 : 12)) {
                ask("distance", which, which == 'Q' ? random.nextInt(10) : 1 + random.nextInt(one(5, 15, 40, 99)));
            }
        }
        for (int i = 0; i < POLICIES.length(); i++) {
            if (isOneOf(2)) {
                tellPolicy(POLICIES.charAt(i));
            }
        }
        ask("rows", "ocl".charAt(random.nextInt(3)));
        for (int master = 0; master < 4; master++) {
            ask("master", master, random.nextInt(one(1, 4)), 1 + random.nextInt(9));
        }
        if (isOneOf(2)) {
            ask("map", random.nextInt(4), random.nextBoolean());
        }
        ask("code", one('n', 's', 's', 'c', 'c') == 'n' ? 'n' : "sc".charAt(random.nextInt(2)));
        ask("slow", isOneOf(4));
    }

    private void tellPolicy(char which) {
        int value;
        switch (which) {
            case 'u': value = 1 + random.nextInt(8); break;
            case 'l': value = random.nextInt(8); break;
            case 'b': value = one(10, 12, 25, 60, 150); break;
            case 'i': value = one(50, 50, 55, 70, 200, 400); break;
            case 'h': value = one(2, 2, 3, 5, 9, 30); break;
            case 'r': value = one(0, 1, 2, 5, 11, 30, 70); break;
            case 'p': value = one(0, 1, 3, 10, 25, 60); break;
            default: value = random.nextInt(2); break;
        }
        ask("policy", which, value);
    }

    private int address() {
        switch (spread) {
            case 1: return random.nextInt(6) * 777 % 4096;
            case 2: return random.nextInt(3) << 7 | random.nextInt(8) << 4 | random.nextInt(3);
            case 3: return random.nextInt(20);
            default: return random.nextInt(4096);
        }
    }

    private void call() {
        int kind = random.nextInt(100);
        if (kind < 28 && !isCalm || kind < 12) {
            ask("read", random.nextInt(4), address());
        } else if (kind < 48 && !isCalm || kind < 20) {
            ask("write", random.nextInt(4), address(), random.nextInt(),
                isOneOf(3) ? 1 + random.nextInt(15) : 15, hasFaults && isOneOf(8));
        } else if (kind < 66) {
            ask("go", 1 + random.nextInt(one(2, 5, 15, 40, 150)));
        } else if (kind < 70) {
            ask("finish", 1 + random.nextInt(one(5, 60, 300)));
        } else if (kind < 73) {
            ask("judge", "arwpfgdxt".charAt(random.nextInt(9)), random.nextInt(2), random.nextInt(4),
                1 + random.nextInt(one(3, 12, 40)));
        } else if (kind < 82 && hasFaults) {
            tellFault();
        } else if (kind < 88 && changes) {
            tellChange();
        } else {
            question();
        }
    }

    private void tellFault() {
        int[] place = new int[4];
        int address = address();
        for (int i = 0; i < 4; i++) {
            place[i] = (Integer) ask("place", address, "kbrc".charAt(i));
        }
        if (isOneOf(8)) {
            place[2] = random.nextInt(34);
        }
        switch (random.nextInt(9)) {
            case 0:
                ask("stick", place[0], place[1], place[2], place[3], random.nextInt(40), random.nextBoolean());
                break;
            case 1: case 2:
                ask("fade", place[0], place[1], place[2], place[3], random.nextInt(isOneOf(3) ? 40 : 32),
                    1 + random.nextInt(one(60, 300, 900)));
                break;
            case 3:
                ask("eye", random.nextInt(2), isOneOf(2) ? 4 + random.nextInt(3) : random.nextInt(21),
                    1 + random.nextInt(16));
                break;
            case 4:
                ask("warmth", one(20, 30, 49, 50, random.nextInt(100)));
                break;
            case 5:
                ask("train", random.nextInt(2));
                break;
            default:
                ask("flip", place[0], place[1], place[2], place[3], random.nextInt(40));
                break;
        }
    }

    private void tellChange() {
        switch (random.nextInt(9)) {
            case 0: ask("map", random.nextInt(4), random.nextBoolean()); break;
            case 1: ask("code", "nsc".charAt(random.nextInt(3))); break;
            case 2: ask("slow", random.nextBoolean()); break;
            case 3: ask("rows", "ocl".charAt(random.nextInt(3))); break;
            case 4: ask("master", random.nextInt(4), random.nextInt(4), 1 + random.nextInt(9)); break;
            case 5: ask("train", random.nextInt(2)); break;
            case 6: ask("distance", (char) ('A' + random.nextInt(19)), 1 + random.nextInt(9)); break;
            default: tellPolicy(POLICIES.charAt(random.nextInt(10))); break;
        }
    }

    private void question() {
        int request = random.nextInt(100);
        int rank = random.nextInt(2);
        int bank = random.nextInt(4);
        int row = random.nextInt(34);
        switch (random.nextInt(22)) {
            case 0: ask("state", request); break;
            case 1: ask("valueOf", request); break;
            case 2: ask("flagOf", request); break;
            case 3: ask("doneAt", request); break;
            case 4: ask("waited", request); break;
            case 5: ask("queued", random.nextBoolean()); break;
            case 6: ask("isDraining"); break;
            case 7: ask("openRow", rank, bank); break;
            case 8: ask("owed", rank); break;
            case 9: ask("rests", rank); break;
            case 10: ask("learned", rank, bank); break;
            case 11: ask("opened", rank, bank, row); break;
            case 12: ask("guarded"); break;
            case 13: ask("command", random.nextInt(50), "kbrtc".charAt(random.nextInt(5))); break;
            case 14: ask("judged"); break;
            case 15: ask("spares", rank, bank); break;
            case 16: ask("energy"); break;
            case 17: ask("waits", "fdhsbq".charAt(random.nextInt(6))); break;
            case 18: ask("hitShare"); break;
            case 19: ask("meanDelay"); break;
            case 20: ask("isConsistent"); break;
            default: ask("delay", rank); break;
        }
    }

    /** Asks for all there is, far behind the calls that are promised. */
    private void compareAll() {
        for (String call : new String[] {"cycle", "isDraining", "guarded", "commands", "isLawful", "energy", "mended",
            "lost", "patrolled", "hitShare", "meanDelay", "isConsistent"}) {
            ask(call);
        }
        for (char cause : "fdhsbq".toCharArray()) {
            ask("waits", cause);
        }
        for (int i = 0; i < keeper.commands(); i++) {
            for (char what : "kbrtc".toCharArray()) {
                ask("command", i, what);
            }
        }
        for (int i = 0; !"IndexOutOfBoundsException".equals(ask("state", i)); i++) {
            ask("valueOf", i);
            ask("flagOf", i);
            ask("doneAt", i);
            ask("waited", i);
        }
        for (int bank = 0; bank < 8; bank++) {
            ask("learned", bank / 4, bank % 4);
            ask("openRow", bank / 4, bank % 4);
            ask("spares", bank / 4, bank % 4);
            for (int row = 0; row < 34; row++) {
                ask("opened", bank / 4, bank % 4, row);
                ask("faults", bank / 4, bank % 4, row);
                for (int bit = 0; bit < 40 * 16; bit++) {
                    ask("flip", bank / 4, bank % 4, row, bit / 40, bit % 40);
                }
            }
        }
        for (int rank = 0; rank < 2; rank++) {
            ask("owed", rank);
            ask("rests", rank);
            ask("delay", rank);
        }
    }
}
