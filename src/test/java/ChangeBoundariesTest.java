/** The boundary sentences of the promises 18 and 19, and what "Changes and errors" says of all calls. */
public final class ChangeBoundariesTest extends Boundaries {
    public static void main(String[] args) {
        runAll(ChangeBoundariesTest.class);
    }

    // ---- promise 18: count

    static void promise18What() {
        Run x = sentence(18, "INVALID_ARGUMENT if what is out of range");
        for (int what = 10; what <= 19; what++) {
            x.due(INVALID, "count", what);
        }
        x.refuses(0, 0, 9, "count", 0);
        x.refuses(0, 20, 22, "count", 20);
        x.due(0, "count", 0);
        x.due(0, "count", 9);
        x.due(2, "count", 20);
        x.due(12, "count", 22);
    }

    static void promise18CardsAndDays() {
        Run x = sentence(18, "0: cards; 1: today");
        easyCards(x, 12);
        x.due(12, "count", 0);
        passTo(x, 0, 999);
        x.due(999, "count", 1);
    }

    static void promise18OfTodayAndThisWeek() {
        Run x = sentence(18, "2: flights today; 3: planes today; 4: hours this week");
        x.does("set", 0, 9);
        x.does("set", 1, 9);
        x.does("set", 2, 99);
        easy(x, 1, 9, -1);
        for (int flights = 1; flights <= 9; flights++) {
            x.does("fly", 0, 2);
            x.due(flights, "count", 2);
            x.due(flights, "count", 3);
            x.due(9 * flights, "count", 4);
        }
        x.does("pass", 1);
        x.does("fly", 0, 2);
        x.does("fly", 0, 1);
        int[] counts = {1, 1, 2, 2, 99, 11, 10, 99, 4, 0};
        dueAll(x, "count", counts);
        x.does("pass", 5);
        x.due(0, "count", 2);
        x.due(0, "count", 3);
        x.due(99, "count", 4);
        x.does("pass", 1);
        x.due(0, "count", 4);
    }

    static void promise18SoFar() {
        Run x = sentence(18, "5: flights so far; 6: flights so far that went badly; 7: hours so far");
        easy(x, 0, 2, -1);
        easy(x, 0, 3, -1);
        x.does("fly", 0, 2);
        x.does("fly", 1, 1);
        x.does("pass", 7);
        x.does("fly", 0, 1);
        x.does("reopen", 0);
        x.does("waive", 0);
        x.due(3, "count", 5);
        x.due(1, "count", 6);
        x.due(7, "count", 7);
        x.does("pass", 99);
        x.due(3, "count", 5);
        x.due(1, "count", 6);
        x.due(7, "count", 7);
    }

    static void promise18HistoryAndText() {
        Run x = sentence(18, "8: states in the history; 9: the length of the text");
        for (int n = 1; n <= 6; n++) {
            x.does("pass", 1);
            x.due(Math.min(n, 4), "count", 8);
        }
        for (int length = 1; length <= 60; length++) {
            x.does("type", 'd');
            x.due(length, "count", 9);
        }
        x.due(4, "count", 8);
    }

    static void promise18Settings() {
        Run x = sentence(18, "20 to 22: the settings 0 to 2");
        x.does("set", 0, 9);
        x.does("set", 1, 8);
        x.does("set", 2, 99);
        x.due(9, "count", 20);
        x.due(8, "count", 21);
        x.due(99, "count", 22);
    }

    // ---- promise 19: undo

    static void promise19Empty() {
        Run x = sentence(19, "NOT_POSSIBLE if it is empty");
        x.due(IMPOSSIBLE, "undo");
        x.does("pass", 1);
        x.due(0, "undo");
        x.due(IMPOSSIBLE, "undo");
        x.due(0, "count", 1);
    }

    static void promise19StatesLeft() {
        Run x = sentence(19, "Returns the number of states that are left in the history");
        passTo(x, 0, 300);
        x.due(3, "undo");
        x.due(3, "count", 8);
        x.due(2, "undo");
        x.due(1, "undo");
        x.due(0, "undo");
        x.due(0, "count", 8);
        x.due(0, "count", 1);
        x.due(IMPOSSIBLE, "undo");
    }

    static void promise19AtMostFour() {
        Run x = sentence(19, "A history of at most 4 states is kept: ... if there are 5 states then, the oldest one is dropped.");
        for (int day = 1; day <= 4; day++) {
            x.does("pass", 1);
            x.due(day, "count", 8);
        }
        x.does("pass", 1);
        x.due(4, "count", 8);
        for (int left = 3; left >= 0; left--) {
            x.due(left, "undo");
            x.due(left + 1, "count", 1);
        }
        x.due(IMPOSSIBLE, "undo");
        x.due(1, "count", 1);
    }

    static void promise19AtMostFourAfterManyChanges() {
        Run x = sentence(19, "if there are 5 states then, the oldest one is dropped");
        for (int card = 0; card < 12; card++) {
            x.does("card", card, 0, 0, 0, 1, -1);
        }
        x.due(3, "undo");
        x.due(2, "undo");
        x.does("pass", 5);
        x.does("pass", 5);
        x.does("pass", 5);
        x.due(4, "count", 8);
        x.due(3, "undo");
        x.due(10, "count", 1);
        x.due(2, "undo");
        x.due(1, "undo");
        x.due(0, "count", 1);
        x.due(10, "count", 0);
        x.due(0, "undo");
        x.due(9, "count", 0);
        x.due(8, "cardOf", 8, 0);
        x.due(IMPOSSIBLE, "undo");
    }

    static void promise19TheChanges() {
        Run x = sentence(19, "The changes are the calls of card, weather, fly, waive, reopen, pass, set and play that return no error.");
        x.does("card", 99, 0, 0, 0, 1, -1);
        x.due(1, "count", 8);
        x.does("weather", 0, 10, 50, 10);
        x.due(2, "count", 8);
        x.does("fly", 0, 2);
        x.due(3, "count", 8);
        x.does("waive", 0);
        x.due(4, "count", 8);
        Run y = another();
        y.does("set", 0, 2);
        y.due(1, "count", 8);
        y.does("pass", 1);
        y.due(2, "count", 8);
        y.does("play");
        y.due(3, "count", 8);
        Run z = another();
        easyCards(z, 1);
        z.does("waive", 0);
        z.does("reopen", 0);
        z.due(3, "count", 8);
    }

    static void promise19NoChanges() {
        Run x = sentence(19, "The changes are the calls of card, weather, fly, waive, reopen, pass, set and play that return no error.");
        easyCards(x, 1);
        x.does("type", 'd');
        x.does("why", 0, 0);
        x.does("cardOf", 0, 0);
        x.does("weatherOf", 0, 0);
        x.does("cards", 0);
        x.does("first", 0);
        x.does("planned", 0, 0);
        x.does("plan", 0);
        x.does("count", 0);
        x.does("fault", 0);
        x.does("clearText");
        x.due(1, "count", 8);
        x.does("undo");
        x.due(0, "count", 8);
    }

    static void promise19RefusedCallsAreNoChanges() {
        Run x = sentence(19, "A call that returns an error changes nothing.");
        easyCards(x, 1);
        x.due(INVALID, "card", 0, 0, 0, 0, 0, -1);
        x.due(INVALID, "weather", 28, 0, 0, 0);
        x.due(INVALID, "fly", 0, 3);
        x.due(INVALID, "waive", 1);
        x.due(IMPOSSIBLE, "reopen", 0);
        x.due(INVALID, "pass", 0);
        x.due(INVALID, "set", 0, 10);
        x.does("type", 'd');
        x.due(IMPOSSIBLE, "play");
        x.does("waive", 0);
        x.due(IMPOSSIBLE, "fly", 0, 1);
        x.due(IMPOSSIBLE, "waive", 0);
        x.due(2, "count", 8);
    }

    static void promise19AllButTheText() {
        Run x = sentence(19, "each change records everything before it but the text");
        x.does("type", 'd');
        x.does("pass", 1);
        x.does("type", '7');
        x.does("type", ';');
        x.due(0, "undo");
        x.due(3, "count", 9);
        x.due(1, "play");
        x.due(7, "count", 1);
        x.does("clearText");
        x.due(0, "undo");
        x.due(0, "count", 9);
        x.due(0, "count", 1);
    }

    static void promise19UndoOfCard() {
        Run x = sentence(19, "Restores the latest state of the history, which is removed from it. (card)");
        easyCards(x, 11);
        x.does("card", 1, 2, 3, 1, 4, 10);
        x.does("undo");
        x.due(11, "count", 0);
        x.due(INVALID, "cardOf", 11, 0);
        x.due(0, "cardOf", 10, 8);
        x.due(11, "card", 99, 0, 0, 0, 1, -1);
    }

    static void promise19UndoOfWeather() {
        Run x = sentence(19, "Restores the latest state of the history, which is removed from it. (weather)");
        x.does("weather", 27, 1, 2, 3);
        x.does("weather", 27, 4, 5, 6);
        x.does("undo");
        for (int what = 0; what <= 2; what++) {
            x.due(1 + what, "weatherOf", 27, what);
        }
        x.does("undo");
        x.due(10, "weatherOf", 27, 0);
        x.due(50, "weatherOf", 27, 1);
        x.due(10, "weatherOf", 27, 2);
    }

    static void promise19UndoOfFly() {
        Run x = sentence(19, "Restores the latest state of the history, which is removed from it. (fly)");
        easy(x, 2, 5, -1);
        x.does("fly", 0, 2);
        x.does("undo");
        for (int what = 2; what <= 8; what++) {
            x.due(what == 8 ? 1 : 0, "count", what);
        }
        x.due(0, "cardOf", 0, 6);
        x.due(0, "cardOf", 0, 7);
        x.due(MISSING, "flightOf", 0, 0);
        x.due(1, "fly", 0, 1);
    }

    static void promise19UndoOfWaiveAndReopen() {
        Run x = sentence(19, "Restores the latest state of the history, which is removed from it. (waive, reopen)");
        chain(x, 3);
        x.does("fly", 0, 2);
        x.does("waive", 0);
        x.does("undo");
        x.due(2, "cardOf", 0, 6);
        x.does("fly", 0, 1);
        x.does("waive", 1);
        x.does("fly", 2, 1);
        x.does("reopen", 0);
        dueAll(x, "cards", 0, 0, 5, 2);
        x.does("undo");
        dueAll(x, "cards", 0, 5, 0, 2);
    }

    static void promise19UndoOfPass() {
        Run x = sentence(19, "Restores the latest state of the history, which is removed from it. (pass)");
        easy(x, 2, 5, -1);
        x.does("pass", 6);
        x.does("fly", 0, 2);
        x.does("pass", 1);
        x.does("undo");
        int[] counts = {1, 6, 1, 2, 5, 1, 1, 5, 3, 0};
        dueAll(x, "count", counts);
        x.due(7, "why", 0, 0);
    }

    static void promise19UndoOfSet() {
        Run x = sentence(19, "Restores the latest state of the history, which is removed from it. (set)");
        x.does("set", 0, 9);
        x.does("set", 1, 9);
        x.does("set", 2, 99);
        x.does("undo");
        x.due(12, "count", 22);
        x.due(9, "count", 21);
        x.does("undo");
        x.due(3, "count", 21);
        x.due(9, "count", 20);
        x.does("undo");
        x.due(2, "count", 20);
    }

    static void promise19UndoOfPlay() {
        Run x = sentence(19, "Restores the latest state of the history, which is removed from it. (play)");
        x.write("c9,9,9,1,2,0;d5;w1,2,3,4;");
        x.does("pass", 1);
        x.due(3, "play");
        x.due(2, "count", 8);
        x.due(1, "undo");
        x.due(1, "count", 1);
        x.due(0, "count", 0);
        x.due(10, "weatherOf", 1, 0);
        x.due(25, "count", 9);
    }

    // ---- changes and errors

    static void promise2NoSuchCard() {
        Run x = sentence(2, "If there is no card with a certain number, this is INVALID_ARGUMENT.");
        easyCards(x, 3);
        for (int card : new int[] {-1, 3, 11, 12, 31, 32, 64, -32, Integer.MIN_VALUE, Integer.MAX_VALUE}) {
            x.due(INVALID, "fly", card, 1);
            x.due(INVALID, "waive", card);
            x.due(INVALID, "reopen", card);
            x.due(INVALID, "why", card, 0);
            x.due(INVALID, "cardOf", card, 6);
            x.due(INVALID, "first", card);
            if (card != -1) {
                x.due(INVALID, "card", 0, 0, 0, 0, 1, card);
            }
        }
    }

    static void promise4RefusedWhole() {
        Run x = sentence(4, "A call that returns an error changes nothing.");
        easy(x, 2, 9, -1);
        easy(x, 1, 4, -1);
        x.does("fly", 0, 2);
        x.due(IMPOSSIBLE, "fly", 1, 1);
        x.due(IMPOSSIBLE, "fly", 0, 1);
        int[] counts = {2, 0, 1, 2, 9, 1, 1, 9, 3, 0};
        dueAll(x, "count", counts);
        x.due(MISSING, "flightOf", 1, 0);
        x.due(0, "cardOf", 1, 7);
    }

    static void promise23RefusedWhole() {
        Run x = sentence(23, "A call that returns an error changes nothing.");
        easy(x, 1, 1, -1);
        x.write("f0;w0,1,2,3;c1,2,3,0,1,1;d9;d0;");
        x.due(IMPOSSIBLE, "play");
        int[] counts = {1, 0, 0, 0, 0, 0, 0, 0, 1, 31};
        dueAll(x, "count", counts);
        x.due(10, "weatherOf", 0, 0);
        x.due(0, "cardOf", 0, 6);
        // What was tried may not come in with the next change either.
        x.does("set", 0, 3);
        x.due(1, "count", 0);
        x.due(0, "count", 1);
        x.due(0, "count", 5);
    }

    static void promise16QuestionsChangeNothing() {
        Run x = sentence(16, "The changes are the calls of card, weather, fly, waive, reopen, pass, set and play");
        chain(x, 3);
        for (int n = 0; n < 3; n++) {
            x.due(3, "plan", 1);
            x.due(2, "planned", 2, 0);
            x.does("pass", 1);
            x.due(1 + n, "count", 1);
            x.due(0, "count", 5);
            x.due(7, "cards", 0);
        }
    }

    static void promise22QuestionsBehindWhatWasTried() {
        Run x = sentence(22, "The changes are the calls of card, weather, fly, waive, reopen, pass, set and play that return no error.");
        x.does("card", 99, 0, 1, 1, 2, -1);
        easy(x, 1, 2, 0);
        x.does("card", 9, 0, 0, 0, 1, 1);
        x.due(1, "weather", 6, 10, 50, 0);
        x.write("w6,0,99,99;c9,0,0,0,1,1;f0;d9;z");
        for (String tried : new String[] {"plan", "planned", "fault", "play", "undo"}) {
            dueBehind(x, tried, 0, "why", 0, 0);
            dueBehind(x, tried, 5, "why", 0, 6);
            dueBehind(x, tried, 2, "why", 1, 0);
            dueBehind(x, tried, INVALID, "why", 3, 0);
            dueBehind(x, tried, INVALID, "cardOf", 3, 0);
            dueBehind(x, tried, 0, "cardOf", 0, 6);
            dueBehind(x, tried, 0, "cardOf", 0, 7);
            dueBehind(x, tried, 2, "cardOf", 0, 8);
            dueBehind(x, tried, 2, "cardOf", 2, 9);
            dueBehind(x, tried, MISSING, "flightOf", 0, 0);
            dueBehind(x, tried, 0, "weatherOf", 6, 2);
            dueBehind(x, tried, 2, "weatherOf", 6, 3);
            dueBehind(x, tried, 7, "cards", 0);
            dueBehind(x, tried, 1, "cards", 4);
            dueBehind(x, tried, 0, "first", 0);
            dueBehind(x, tried, MISSING, "first", 1);
            dueBehind(x, tried, INVALID, "first", 3);
            dueBehind(x, tried, 1, "planned", 1, 0);
            dueBehind(x, tried, 4, "plan", 5);
            dueBehind(x, tried, 5, "worst", 0);
            dueBehind(x, tried, 1, "worst", 1);
            dueBehind(x, tried, 3, "count", 0);
            dueBehind(x, tried, 0, "count", 1);
            dueBehind(x, tried, 0, "count", 4);
            dueBehind(x, tried, 30, "fault", 0);
        }
    }

    /** A question that is asked just behind one that looks ahead, a play that is refused, or a change that is undone. */
    private static void dueBehind(Run x, String tried, int want, String name, int... a) {
        switch (tried) {
            case "plan":
                x.due(4, "plan", 5);
                break;
            case "planned":
                x.due(0, "planned", 1, 1);
                break;
            case "fault":
                x.due(1, "fault", 1);
                break;
            case "play":
                x.due(IMPOSSIBLE, "play");
                break;
            default:
                x.does("waive", 0);
                x.due(3, "undo");
        }
        x.due(want, name, a);
    }
}
