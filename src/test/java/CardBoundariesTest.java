/** The boundary sentences of the promises 1 to 3: a new object, cards, weather. */
public final class CardBoundariesTest extends Boundaries {
    public static void main(String[] args) {
        runAll(CardBoundariesTest.class);
    }

    // ---- promise 1: a new object

    static void promise1WithoutCards() {
        Run x = sentence(1, "Creates a book without cards.");
        x.due(0, "count", 0);
        dueAll(x, "cards", 0, 0, 0, 0, 0);
        x.due(INVALID, "cardOf", 0, 0);
        x.due(0, "weatherOf", 0, 3);
        dueAll(x, "plan", 1, 0, MISSING, 0, 0, 0);
    }

    static void promise1Today() {
        Run x = sentence(1, "Days are numbered from 0; today is the day 0 at first.");
        x.due(0, "count", 1);
        x.due(1, "pass", 1);
    }

    static void promise1Weather() {
        Run x = sentence(1, "wind (0 to 99; 10 at first), ceiling (0 to 99; 50 at first) and sight (0 to 99; 10 at first)");
        for (int day = 0; day <= 27; day++) {
            x.due(10, "weatherOf", day, 0);
            x.due(50, "weatherOf", day, 1);
            x.due(10, "weatherOf", day, 2);
        }
    }

    static void promise1Settings() {
        Run x = sentence(1, "The settings are (in parentheses: range; first value): 0 (0 to 9; 2), 1 (1 to 9; 3), 2 (1 to 99; 12).");
        x.due(2, "count", 20);
        x.due(3, "count", 21);
        x.due(12, "count", 22);
        x.due(2, "set", 0, 2);
        x.due(3, "set", 1, 3);
        x.due(12, "set", 2, 12);
    }

    static void promise1Text() {
        Run x = sentence(1, "There is a text of at most 60 characters, initially empty");
        x.due(0, "count", 9);
        dueFault(x, MISSING, MISSING, MISSING);
        x.due(0, "clearText");
        x.due(1, "type", 'd');
    }

    static void promise1NoFlightsAndNoHistory() {
        Run x = sentence(1, "Creates a book without cards.");
        for (int what = 2; what <= 8; what++) {
            x.due(0, "count", what);
        }
        for (int what = 0; what <= 4; what++) {
            x.due(MISSING, "flightOf", 0, what);
        }
        x.due(IMPOSSIBLE, "undo");
    }

    static void promise1ObjectsApart() {
        Run x = sentence(1, "Creates a book without cards.");
        easy(x, 0, 1, -1);
        x.does("fly", 0, 1);
        x.does("type", 'd');
        Run other = another();
        for (int what = 0; what <= 9; what++) {
            other.due(0, "count", what);
        }
    }

    // ---- promise 2: card

    static void promise2Wind() {
        Run x = sentence(2, "wind: 0 to 99");
        x.refuses(0, 0, 99, "card", 0, 0, 0, 0, 1, -1);
        x.due(0, "card", 0, 0, 0, 0, 1, -1);
        x.due(1, "card", 99, 0, 0, 0, 1, -1);
        x.due(0, "cardOf", 0, 0);
        x.due(99, "cardOf", 1, 0);
    }

    static void promise2Ceiling() {
        Run x = sentence(2, "ceiling: 0 to 99");
        x.refuses(1, 0, 99, "card", 0, 0, 0, 0, 1, -1);
        x.due(0, "card", 50, 0, 50, 0, 1, -1);
        x.due(1, "card", 50, 99, 50, 0, 1, -1);
        x.due(0, "cardOf", 0, 1);
        x.due(99, "cardOf", 1, 1);
    }

    static void promise2Sight() {
        Run x = sentence(2, "sight: 0 to 99");
        x.refuses(2, 0, 99, "card", 0, 0, 0, 0, 1, -1);
        x.due(0, "card", 50, 50, 0, 0, 1, -1);
        x.due(1, "card", 50, 50, 99, 0, 1, -1);
        x.due(0, "cardOf", 0, 2);
        x.due(99, "cardOf", 1, 2);
    }

    static void promise2Planes() {
        Run x = sentence(2, "planes: 0 to 3");
        x.refuses(3, 0, 3, "card", 0, 0, 0, 0, 1, -1);
        x.due(0, "card", 0, 0, 0, 0, 5, -1);
        x.due(1, "card", 0, 0, 0, 3, 5, -1);
        x.due(0, "cardOf", 0, 3);
        x.due(3, "cardOf", 1, 3);
    }

    static void promise2Hours() {
        Run x = sentence(2, "hours: 1 to 9");
        x.refuses(4, 1, 9, "card", 0, 0, 0, 0, 1, -1);
        x.due(0, "card", 0, 0, 0, 2, 1, -1);
        x.due(1, "card", 0, 0, 0, 2, 9, -1);
        x.due(1, "cardOf", 0, 4);
        x.due(9, "cardOf", 1, 4);
    }

    static void promise2Before() {
        Run x = sentence(2, "before: number of a card, or -1: none");
        x.refuses(5, -1, -1, "card", 0, 0, 0, 0, 1, -1);
        x.due(0, "card", 0, 0, 0, 0, 1, -1);
        x.refuses(5, -1, 0, "card", 0, 0, 0, 0, 1, -1);
        x.due(1, "card", 0, 0, 0, 0, 1, 0);
        x.refuses(5, -1, 1, "card", 0, 0, 0, 0, 1, -1);
        x.due(2, "card", 0, 0, 0, 0, 1, 1);
        x.due(3, "card", 0, 0, 0, 0, 1, -1);
        x.due(MISSING, "cardOf", 0, 5);
        x.due(0, "cardOf", 1, 5);
        x.due(1, "cardOf", 2, 5);
        x.due(MISSING, "cardOf", 3, 5);
    }

    static void promise2BeforeInEachState() {
        Run x = sentence(2, "perhaps a card of a lower number that has to be flown well ahead of it");
        easyCards(x, 3);
        x.does("fly", 0, 1);
        x.does("fly", 1, 2);
        x.does("waive", 2);
        for (int before = 0; before <= 2; before++) {
            x.due(3 + before, "card", 99, 0, 0, 0, 1, before);
            x.due(before, "cardOf", 3 + before, 5);
        }
        x.due(INVALID, "card", 99, 0, 0, 0, 1, 6);
    }

    static void promise2Number() {
        Run x = sentence(2, "There are at most 12 cards, numbered from 0. Returns its number");
        for (int card = 0; card <= 11; card++) {
            x.due(card, "card", 99, 0, 0, 0, 1, -1);
            x.due(card + 1, "count", 0);
        }
    }

    static void promise2Twelve() {
        Run x = sentence(2, "LIMIT_REACHED if there are 12");
        easyCards(x, 11);
        x.due(11, "card", 99, 0, 0, 0, 1, -1);
        x.due(LIMIT, "card", 99, 0, 0, 0, 1, -1);
        x.due(LIMIT, "card", 0, 99, 99, 3, 9, 11);
        x.due(12, "count", 0);
        x.due(0, "cardOf", 11, 6);
        x.due(INVALID, "cardOf", 12, 6);
    }

    static void promise2TwelveAreThereWhateverTheirState() {
        Run x = sentence(2, "LIMIT_REACHED if there are 12");
        easyCards(x, 12);
        x.does("waive", 0);
        x.does("fly", 1, 1);
        x.due(LIMIT, "card", 99, 0, 0, 0, 1, -1);
    }

    static void promise2RangeAheadOfLimit() {
        Run x = sentence(2, "INVALID_ARGUMENT is returned rather than ... LIMIT_REACHED");
        easyCards(x, 12);
        x.refuses(0, 0, 99, "card", 0, 0, 0, 0, 1, -1);
        x.refuses(1, 0, 99, "card", 0, 0, 0, 0, 1, -1);
        x.refuses(2, 0, 99, "card", 0, 0, 0, 0, 1, -1);
        x.refuses(3, 0, 3, "card", 0, 0, 0, 0, 1, -1);
        x.refuses(4, 1, 9, "card", 0, 0, 0, 0, 1, -1);
        x.refuses(5, -1, 11, "card", 0, 0, 0, 0, 1, -1);
    }

    static void promise2NewCardIsOpen() {
        Run x = sentence(2, "Its state is 0 open");
        easyCards(x, 1);
        x.does("fly", 0, 2);
        x.does("undo");
        x.does("undo");
        x.due(0, "card", 1, 2, 3, 1, 2, -1);
        int[] fresh = {1, 2, 3, 1, 2, MISSING, 0, 0, 0, 0};
        for (int what = 0; what < fresh.length; what++) {
            x.due(fresh[what], "cardOf", 0, what);
        }
        x.due(1, "cards", 0);
    }

    // ---- promise 3: weather

    static void promise3Day() {
        Run x = sentence(3, "day: 0 to 27: the number of a day modulo 28");
        x.refuses(0, 0, 27, "weather", 0, 1, 2, 3);
        x.due(0, "weather", 0, 1, 2, 3);
        x.due(0, "weather", 27, 4, 5, 6);
        for (int what = 0; what <= 2; what++) {
            x.due(1 + what, "weatherOf", 0, what);
            x.due(4 + what, "weatherOf", 27, what);
            x.due(what == 1 ? 50 : 10, "weatherOf", 1, what);
            x.due(what == 1 ? 50 : 10, "weatherOf", 26, what);
        }
    }

    static void promise3Wind() {
        Run x = sentence(3, "wind: 0 to 99");
        easyCards(x, 1);
        x.refuses(1, 0, 99, "weather", 5, 0, 0, 0);
        x.due(1, "weather", 5, 0, 0, 0);
        x.due(0, "weatherOf", 5, 0);
        x.due(1, "weather", 5, 99, 0, 0);
        x.due(99, "weatherOf", 5, 0);
    }

    static void promise3Ceiling() {
        Run x = sentence(3, "ceiling: 0 to 99");
        easyCards(x, 1);
        x.refuses(2, 0, 99, "weather", 5, 0, 0, 0);
        x.due(1, "weather", 5, 0, 0, 0);
        x.due(0, "weatherOf", 5, 1);
        x.due(1, "weather", 5, 0, 99, 0);
        x.due(99, "weatherOf", 5, 1);
    }

    static void promise3Sight() {
        Run x = sentence(3, "sight: 0 to 99");
        easyCards(x, 1);
        x.refuses(3, 0, 99, "weather", 5, 0, 0, 0);
        x.due(1, "weather", 5, 0, 0, 0);
        x.due(0, "weatherOf", 5, 2);
        x.due(1, "weather", 5, 0, 0, 99);
        x.due(99, "weatherOf", 5, 2);
    }

    static void promise3Limits() {
        Run x = sentence(3, "Returns how many cards have limits that it keeps to");
        x.due(0, "weather", 0, 0, 99, 99);
        x.does("card", 40, 50, 60, 0, 1, -1);
        x.due(1, "weather", 0, 40, 50, 60);
        x.due(1, "weather", 0, 39, 51, 61);
        x.due(0, "weather", 0, 41, 50, 60);
        x.due(0, "weather", 0, 40, 49, 60);
        x.due(0, "weather", 0, 40, 50, 59);
    }

    static void promise3LimitsAtTheEnds() {
        Run x = sentence(3, "A card has limits: the greatest wind, the least ceiling, the least sight (0 to 99 each)");
        x.does("card", 0, 99, 99, 0, 1, -1);
        x.does("card", 99, 0, 0, 0, 1, -1);
        x.due(2, "weather", 1, 0, 99, 99);
        x.due(1, "weather", 1, 1, 99, 99);
        x.due(1, "weather", 1, 0, 98, 99);
        x.due(1, "weather", 1, 0, 99, 98);
        x.due(1, "weather", 1, 99, 0, 0);
    }

    static void promise3CountsAllCards() {
        Run x = sentence(3, "Returns how many cards have limits that it keeps to");
        chain(x, 12);
        x.due(12, "weather", 0, 99, 0, 0);
        x.does("fly", 0, 1);
        x.does("fly", 1, 2);
        x.does("waive", 2);
        x.does("set", 1, 1);
        x.due(12, "weather", 0, 99, 0, 0);
    }

    static void promise3EachFourthWeek() {
        Run x = sentence(3, "Weather is told for 28 days, by the number of a day modulo 28");
        x.does("card", 50, 0, 0, 0, 1, -1);
        x.does("weather", 0, 51, 0, 0);
        x.does("weather", 27, 51, 0, 0);
        int[] hindered = {0, 27, 28, 55, 56, 83, 84};
        int[] free = {1, 26, 29, 54, 57, 82, 85, 99};
        for (int later : hindered) {
            x.due(3, "why", 0, later);
        }
        for (int later : free) {
            x.due(0, "why", 0, later);
        }
        // The day 979 is the day 27 modulo 28.
        passTo(x, 0, 978);
        x.due(0, "why", 0, 0);
        x.due(3, "why", 0, 1);
        x.due(3, "why", 0, 2);
        x.due(0, "why", 0, 3);
        x.does("pass", 2);
        x.due(3, "why", 0, 0);
        x.due(3, "why", 0, 27);
        x.due(3, "why", 0, 28);
        x.due(0, "why", 0, 29);
    }

    static void promise3ToldAnew() {
        Run x = sentence(3, "Tells the weather.");
        x.does("weather", 7, 1, 2, 3);
        x.does("weather", 7, 4, 5, 6);
        x.does("pass", 99);
        x.due(4, "weatherOf", 7, 0);
        x.due(5, "weatherOf", 7, 1);
        x.due(6, "weatherOf", 7, 2);
    }
}
