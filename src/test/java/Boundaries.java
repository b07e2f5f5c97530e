import java.lang.reflect.InvocationTargetException;
import java.lang.reflect.Method;
import java.util.ArrayList;
import java.util.Arrays;
import java.util.Comparator;
import java.util.List;

/**
 * What the tests of the document's boundary sentences share. Each static method whose name begins with "promise" tests
 * one sentence, which it tells, with its promise, at its beginning.
 */
abstract class Boundaries {
    // Written out as the document has them, not taken from the class.
    static final int INVALID = -1000001;
    static final int IMPOSSIBLE = -1000002;
    static final int LIMIT = -1000003;
    static final int MISSING = -1000004;

    private static final List<Run> RUNS = new ArrayList<>();
    private static final List<String> WRONG = new ArrayList<>();
    private static String sentence = "";

    /** A new object for the test of this sentence. */
    static Run sentence(int promise, String words) {
        sentence = "promise " + promise + ", \"" + words + "\"";
        return another();
    }

    /** One more object for the test of the same sentence. */
    static Run another() {
        Run run = new Run();
        RUNS.add(run);
        return run;
    }

    /** Adds a card that no weather hinders. */
    static void easy(Run x, int planes, int hours, int before) {
        x.does("card", 99, 0, 0, planes, hours, before);
    }

    /** Adds cards without planes, of one hour each, that no weather hinders. */
    static void easyCards(Run x, int cards) {
        for (int card = 0; card < cards; card++) {
            easy(x, 0, 1, -1);
        }
    }

    /** Adds cards each of which has the last one ahead of it. */
    static void chain(Run x, int cards) {
        for (int card = 0; card < cards; card++) {
            easy(x, 0, 1, card - 1);
        }
    }

    /** Makes room for as many flights and hours as there can be. */
    static void muchRoom(Run x) {
        x.does("set", 1, 9);
        x.does("set", 2, 99);
    }

    static void passTo(Run x, int from, int to) {
        for (int day = from; day < to; day = Math.min(to, day + 99)) {
            x.does("pass", Math.min(99, to - day));
        }
    }

    static void dueAll(Run x, String name, int... wants) {
        for (int what = 0; what < wants.length; what++) {
            x.due(wants[what], name, what);
        }
    }

    static void dueFault(Run x, int position, int reason, int cause) {
        dueAll(x, "fault", position, reason, cause);
    }

    static void runAll(Class<? extends Boundaries> test) {
        int passed = 0;
        int failed = 0;
        Method[] methods = test.getDeclaredMethods();
        Arrays.sort(methods, Comparator.comparing(Method::getName));
        for (Method method : methods) {
            if (!method.getName().startsWith("promise")) {
                continue;
            }
            if (holds(method)) {
                passed++;
            } else {
                failed++;
            }
        }
        System.out.println(test.getName() + ": " + passed + " passed, " + failed + " failed");
        if (failed > 0 || passed == 0) {
            System.exit(1);
        }
    }

    private static boolean holds(Method method) {
        RUNS.clear();
        WRONG.clear();
        sentence = method.getName();
        try {
            method.invoke(null);
        } catch (InvocationTargetException thrown) {
            WRONG.add("threw " + thrown.getCause());
        } catch (IllegalAccessException hidden) {
            WRONG.add("can't be called");
        }
        if (RUNS.isEmpty()) {
            WRONG.add("tests nothing");
        }
        for (Run run : RUNS) {
            WRONG.addAll(run.end());
        }
        for (String wrong : WRONG) {
            System.out.println(sentence + ": " + wrong);
        }
        return WRONG.isEmpty();
    }
}
