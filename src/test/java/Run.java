import java.util.ArrayList;
import java.util.List;
import java.util.Set;

/**
 * One object under test. A twin gets the same calls but for the questions and those that were refused: in the end both
 * have to tell the same, as neither a question nor an error may change anything.
 */
final class Run {
    /** What a later call of an object answers is free, so none is made. */
    private static final int MOST_CALLS = 512;
    private static final Set<String> QUESTIONS = Set.of("why", "cardOf", "flightOf", "weatherOf", "cards", "first",
            "planned", "plan", "worst", "count", "fault");

    private final SortieCards book = new SortieCards();
    private final SortieCards twin = new SortieCards();
    private final List<String> wrong = new ArrayList<>();
    private int calls = 0;

    /** Makes a call and compares its answer. */
    void due(int want, String name, int... a) {
        int got = call(name, a);
        if (got != want) {
            wrong.add(Calls.told(name, a) + " as call " + calls + " answered " + got + ", due is " + want);
        }
    }

    /** Makes a call that leads to what is tested and so may not be refused. */
    void does(String name, int... a) {
        int got = call(name, a);
        if (got < 0) {
            wrong.add(Calls.told(name, a) + " as call " + calls + " is refused with " + got);
        }
    }

    /** Outside of its range, near to it and far away, the argument at this place is refused. */
    void refuses(int place, int lowest, int highest, String name, int... a) {
        for (int outside : new int[] {lowest - 1, highest + 1, Integer.MIN_VALUE, Integer.MAX_VALUE}) {
            int[] changed = a.clone();
            changed[place] = outside;
            due(SortieCards.INVALID_ARGUMENT, name, changed);
        }
    }

    /** Makes this the text. */
    void write(String text) {
        does("clearText");
        for (char character : text.toCharArray()) {
            does("type", character);
        }
    }

    private int call(String name, int... a) {
        calls++;
        if (calls > MOST_CALLS) {
            wrong.add("more than " + MOST_CALLS + " calls");
        }
        int got = Calls.make(book, name, a);
        if (got >= 0 && !QUESTIONS.contains(name)) {
            int same = Calls.make(twin, name, a);
            if (same != got) {
                wrong.add(Calls.told(name, a) + " as call " + calls + " answered " + got + ", without the questions and "
                        + "errors ahead of it " + same);
            }
        }
        return got;
    }

    /** What was wrong; nothing is called behind this. */
    List<String> end() {
        int cards = book.count(0);
        calls++;
        List<int[]> arguments = new ArrayList<>();
        List<String> names = new ArrayList<>();
        askAll(names, arguments, cards);
        for (int n = 0; n < names.size() && calls < MOST_CALLS; n++, calls++) {
            int got = Calls.make(book, names.get(n), arguments.get(n));
            int same = Calls.make(twin, names.get(n), arguments.get(n));
            if (got != same) {
                wrong.add(Calls.told(names.get(n), arguments.get(n)) + " at the end answered " + got
                        + ", without questions and errors " + same);
                break;
            }
        }
        return wrong;
    }

    private static void askAll(List<String> names, List<int[]> arguments, int cards) {
        askInShort(names, arguments);
        for (int n = 0; n < 10 * 5; n++) {
            ask(names, arguments, "flightOf", n / 5, n % 5);
        }
        for (int n = 0; n < cards * 8; n++) {
            ask(names, arguments, "cardOf", n / 8, n % 8);
        }
        for (int n = 0; n < 28 * 3; n++) {
            ask(names, arguments, "weatherOf", n / 3, n % 3);
        }
        for (int left = 3; left >= -1; left--) {
            ask(names, arguments, "undo");
            askInShort(names, arguments);
        }
    }

    private static void askInShort(List<String> names, List<int[]> arguments) {
        for (int what = 0; what <= 9; what++) {
            ask(names, arguments, "count", what);
        }
        for (int what = 20; what <= 22; what++) {
            ask(names, arguments, "count", what);
        }
        for (int what = 0; what <= 4; what++) {
            ask(names, arguments, "cards", what);
        }
        for (int what = 0; what <= 5; what++) {
            ask(names, arguments, "plan", what);
        }
        for (int what = 0; what <= 2; what++) {
            ask(names, arguments, "fault", what);
        }
    }

    private static void ask(List<String> names, List<int[]> arguments, String name, int... a) {
        names.add(name);
        arguments.add(a);
    }
}
