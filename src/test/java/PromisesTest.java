/** For each promise of the document: ordinary inputs, the edges that it names, and wrong inputs. */
public final class PromisesTest {
    private static final int INVALID = SortieCards.INVALID_ARGUMENT;
    private static final int IMPOSSIBLE = SortieCards.NOT_POSSIBLE;
    private static final int LIMIT = SortieCards.LIMIT_REACHED;
    private static final int MISSING = SortieCards.NOT_FOUND;

    private static int wrong = 0;

    public static void main(String[] args) {
        promise1NewObject();
        promise2Card();
        promise3Weather();
        promise4Fly();
        promise5Waive();
        promise6Reopen();
        promise7Pass();
        promise8Set();
        promise9Why();
        promise9WhyLater();
        promise10CardOf();
        promise11FlightOf();
        promise12WeatherOf();
        promise13Cards();
        promise14First();
        promise15Planned();
        promise16Plan();
        promise16PlanAtItsEnds();
        promise17Worst();
        promise18Count();
        promise19Undo();
        promise19UndoOfEachChange();
        promise20Type();
        promise21ClearText();
        promise22FaultOfForm();
        promise22FaultOfCall();
        promise23Play();
        questionsAndErrorsChangeNothing();
        System.out.println(wrong == 0 ? "promises: all answers are as due" : "promises: " + wrong + " wrong");
        if (wrong != 0) {
            System.exit(1);
        }
    }

    private static void due(String call, int got, int want) {
        if (got != want) {
            wrong++;
            System.out.println(call + " answered " + got + ", due is " + want);
        }
    }

    /** A card that the weather at first never hinders. */
    private static int easy(SortieCards x, int planes, int hours, int before) {
        return x.card(99, 0, 0, planes, hours, before);
    }

    private static void write(SortieCards x, String text) {
        x.clearText();
        for (char character : text.toCharArray()) {
            x.type(character);
        }
    }

    private static void dueFault(SortieCards x, String text, int position, int reason, int cause) {
        write(x, text);
        due("fault(0) of " + text, x.fault(0), position);
        due("fault(1) of " + text, x.fault(1), reason);
        due("fault(2) of " + text, x.fault(2), cause);
        due("play() of " + text, x.play(), IMPOSSIBLE);
    }

    private static void promise1NewObject() {
        SortieCards x = new SortieCards();
        for (int what = 0; what <= 9; what++) {
            due("new: count(" + what + ")", x.count(what), 0);
        }
        for (int what = 0; what <= 4; what++) {
            due("new: cards(" + what + ")", x.cards(what), 0);
        }
        for (int day = 0; day < 28; day++) {
            due("new: weatherOf(" + day + ", 0)", x.weatherOf(day, 0), 10);
            due("new: weatherOf(" + day + ", 1)", x.weatherOf(day, 1), 50);
            due("new: weatherOf(" + day + ", 2)", x.weatherOf(day, 2), 10);
        }
        due("new: count(20)", x.count(20), 2);
        due("new: count(21)", x.count(21), 3);
        due("new: count(22)", x.count(22), 12);
        SortieCards other = new SortieCards();
        easy(other, 0, 1, -1);
        due("another object's cards", x.count(0), 0);
    }

    private static void promise2Card() {
        SortieCards x = new SortieCards();
        int[][] wrongCards = {
            {-1, 0, 0, 0, 1, -1}, {100, 0, 0, 0, 1, -1}, {0, -1, 0, 0, 1, -1}, {0, 100, 0, 0, 1, -1},
            {0, 0, -1, 0, 1, -1}, {0, 0, 100, 0, 1, -1}, {0, 0, 0, -1, 1, -1}, {0, 0, 0, 4, 1, -1},
            {0, 0, 0, 0, 0, -1}, {0, 0, 0, 0, 10, -1}, {0, 0, 0, 0, 1, -2}, {0, 0, 0, 0, 1, 12},
            {Integer.MIN_VALUE, 0, 0, 0, 1, -1}, {0, 0, 0, 0, 1, Integer.MAX_VALUE},
        };
        for (int[] c : wrongCards) {
            due("wrong card", x.card(c[0], c[1], c[2], c[3], c[4], c[5]), INVALID);
        }
        due("a card ahead of itself", easy(x, 0, 1, 0), INVALID);
        due("no change by errors", x.count(8), 0);
        due("card(0, 0, 0, 0, 1, -1)", x.card(0, 0, 0, 0, 1, -1), 0);
        due("card(99, 99, 99, 3, 9, 0)", x.card(99, 99, 99, 3, 9, 0), 1);
        due("before that is not there yet", easy(x, 0, 1, 2), INVALID);
        for (int card = 2; card < 12; card++) {
            due("card " + card, easy(x, 0, 1, card - 1), card);
        }
        due("a thirteenth card", easy(x, 0, 1, -1), LIMIT);
        due("a thirteenth card with the last one ahead", easy(x, 0, 1, 11), LIMIT);
        due("a thirteenth card that is wrong", easy(x, 4, 1, -1), INVALID);
        due("a thirteenth card ahead of itself", easy(x, 0, 1, 12), INVALID);
        due("count(0)", x.count(0), 12);
    }

    private static void promise3Weather() {
        SortieCards x = new SortieCards();
        due("weather without cards", x.weather(0, 0, 99, 99), 0);
        x.card(20, 30, 40, 0, 1, -1);
        x.card(21, 29, 39, 3, 9, 0);
        due("weather just within", x.weather(3, 20, 30, 40), 2);
        due("weather of wind", x.weather(3, 21, 30, 40), 1);
        due("weather of ceiling", x.weather(3, 20, 29, 40), 1);
        due("weather of sight", x.weather(3, 20, 30, 39), 1);
        due("weather too bad", x.weather(3, 22, 30, 40), 0);
        due("weatherOf(3, 0)", x.weatherOf(3, 0), 22);
        due("weatherOf(3, 1)", x.weatherOf(3, 1), 30);
        due("weatherOf(3, 2)", x.weatherOf(3, 2), 40);
        due("weatherOf(2, 0)", x.weatherOf(2, 0), 10);
        x.waive(0);
        due("weather counts waived cards too", x.weather(27, 0, 99, 99), 2);
        due("weather(-1)", x.weather(-1, 0, 0, 0), INVALID);
        due("weather(28)", x.weather(28, 0, 0, 0), INVALID);
        due("weather wind -1", x.weather(0, -1, 0, 0), INVALID);
        due("weather wind 100", x.weather(0, 100, 0, 0), INVALID);
        due("weather ceiling -1", x.weather(0, 0, -1, 0), INVALID);
        due("weather ceiling 100", x.weather(0, 0, 100, 0), INVALID);
        due("weather sight -1", x.weather(0, 0, 0, -1), INVALID);
        due("weather sight 100", x.weather(0, 0, 0, 100), INVALID);
        due("weatherOf(0, 1) stays", x.weatherOf(0, 1), 99);
    }

    private static void promise4Fly() {
        SortieCards x = new SortieCards();
        due("fly without cards", x.fly(0, 1), INVALID);
        easy(x, 1, 4, -1);
        easy(x, 0, 2, 0);
        due("fly(-1, 1)", x.fly(-1, 1), INVALID);
        due("fly(2, 1)", x.fly(2, 1), INVALID);
        due("fly(0, 0)", x.fly(0, 0), INVALID);
        due("fly(0, 3)", x.fly(0, 3), INVALID);
        due("fly(1, 3) that could not be flown", x.fly(1, 3), INVALID);
        due("fly(1, 1) too early", x.fly(1, 1), IMPOSSIBLE);
        due("fly(0, 2)", x.fly(0, 2), 1);
        due("state after a bad flight", x.cardOf(0, 6), 2);
        due("fly(1, 1) after a bad one", x.fly(1, 1), IMPOSSIBLE);
        due("fly(0, 1)", x.fly(0, 1), 2);
        due("state after a good flight", x.cardOf(0, 6), 1);
        due("fly(0, 1) again", x.fly(0, 1), IMPOSSIBLE);
        due("fly(1, 1)", x.fly(1, 1), 3);
        due("flights today", x.count(2), 3);
        due("planes today", x.count(3), 2);
        due("hours this week", x.count(4), 10);
        due("flights so far", x.count(5), 3);
        due("bad flights", x.count(6), 1);
        due("hours so far", x.count(7), 10);
        x.pass(1);
        x.reopen(1);
        due("fly(1, 1) on the next day", x.fly(1, 1), 1);
    }

    private static void promise5Waive() {
        SortieCards x = new SortieCards();
        due("waive(0) without cards", x.waive(0), INVALID);
        easy(x, 0, 1, -1);
        easy(x, 0, 1, 0);
        easy(x, 0, 1, 1);
        due("waive(-1)", x.waive(-1), INVALID);
        due("waive(3)", x.waive(3), INVALID);
        due("waive an open one", x.waive(0), 0);
        due("state", x.cardOf(0, 6), 3);
        due("waive it again", x.waive(0), IMPOSSIBLE);
        due("the next one can be flown", x.why(1, 0), 0);
        x.fly(1, 2);
        due("waive one to be flown again", x.waive(1), 2);
        x.fly(2, 1);
        due("waive one flown well", x.waive(2), IMPOSSIBLE);
        due("a waived one can't be flown", x.fly(0, 1), IMPOSSIBLE);
        due("a waived one takes no flight", x.count(5), 2);
    }

    private static void promise6Reopen() {
        SortieCards x = new SortieCards();
        due("reopen(0) without cards", x.reopen(0), INVALID);
        x.set(1, 9);
        easy(x, 0, 1, -1);
        easy(x, 0, 1, 0);
        easy(x, 0, 1, 1);
        easy(x, 0, 1, 0);
        easy(x, 0, 1, -1);
        due("reopen(-1)", x.reopen(-1), INVALID);
        due("reopen(5)", x.reopen(5), INVALID);
        due("reopen an open one", x.reopen(0), IMPOSSIBLE);
        x.fly(0, 2);
        due("reopen one to be flown again", x.reopen(0), IMPOSSIBLE);
        x.fly(0, 1);
        x.waive(1);
        x.fly(2, 1);
        x.fly(4, 1);
        due("reopen past a waived and an open one", x.reopen(0), 2);
        due("cards(0) then", x.cards(0), 8);
        due("cards(1) then", x.cards(1), 16);
        due("cards(2) then", x.cards(2), 5);
        due("cards(3) then", x.cards(3), 2);
        due("what it took stays", x.count(4), 4);
        due("reopen a waived one", x.reopen(1), 1);
        due("state of it", x.cardOf(1, 6), 2);
        due("reopen one without followers", x.reopen(4), 1);
        due("reopen it again", x.reopen(4), IMPOSSIBLE);
    }

    private static void promise7Pass() {
        SortieCards x = new SortieCards();
        due("pass(0)", x.pass(0), INVALID);
        due("pass(-1)", x.pass(-1), INVALID);
        due("pass(100)", x.pass(100), INVALID);
        easy(x, 1, 5, -1);
        x.fly(0, 2);
        due("pass(1)", x.pass(1), 1);
        due("flights of the new day", x.count(2), 0);
        due("planes of the new day", x.count(3), 0);
        due("hours of the same week", x.count(4), 5);
        due("flights so far", x.count(5), 1);
        due("pass(5) to the week's last day", x.pass(5), 6);
        due("hours of the same week", x.count(4), 5);
        due("pass(1) to the next week", x.pass(1), 7);
        due("hours of the new week", x.count(4), 0);
        due("hours so far", x.count(7), 5);
        x.fly(0, 2);
        due("pass(7) over a week's end", x.pass(7), 14);
        due("hours of the week after", x.count(4), 0);
        for (int day = 14; day + 99 <= 999; day += 99) {
            due("pass(99)", x.pass(99), day + 99);
        }
        due("today", x.count(1), 905);
        due("pass(95)", x.pass(95), LIMIT);
        due("pass(100) near the end", x.pass(100), INVALID);
        due("pass(94)", x.pass(94), 999);
        due("pass(1) on the last day", x.pass(1), LIMIT);
        due("today", x.count(1), 999);
    }

    private static void promise8Set() {
        SortieCards x = new SortieCards();
        due("set(-1, 1)", x.set(-1, 1), INVALID);
        due("set(3, 1)", x.set(3, 1), INVALID);
        due("set(0, -1)", x.set(0, -1), INVALID);
        due("set(0, 10)", x.set(0, 10), INVALID);
        due("set(1, 0)", x.set(1, 0), INVALID);
        due("set(1, 10)", x.set(1, 10), INVALID);
        due("set(2, 0)", x.set(2, 0), INVALID);
        due("set(2, 100)", x.set(2, 100), INVALID);
        due("set(0, 9)", x.set(0, 9), 2);
        due("set(0, 0)", x.set(0, 0), 9);
        due("set(1, 9)", x.set(1, 9), 3);
        due("set(1, 1)", x.set(1, 1), 9);
        due("set(2, 99)", x.set(2, 99), 12);
        due("set(2, 1)", x.set(2, 1), 99);
        due("set(2, 1) once more", x.set(2, 1), 1);
        due("count(20)", x.count(20), 0);
        due("count(21)", x.count(21), 1);
        due("count(22)", x.count(22), 1);
        due("set of the same value is a change", x.count(8), 4);
        x = new SortieCards();
        easy(x, 2, 9, -1);
        x.fly(0, 2);
        x.set(0, 1);
        x.set(2, 5);
        due("planes taken stay", x.count(3), 2);
        due("hours taken stay", x.count(4), 9);
    }

    private static void promise9Why() {
        SortieCards x = new SortieCards();
        due("why(0, 0) without cards", x.why(0, 0), INVALID);
        x.card(9, 51, 11, 3, 9, -1);
        x.card(10, 51, 11, 3, 9, 0);
        due("why(-1, 0)", x.why(-1, 0), INVALID);
        due("why(2, 0)", x.why(2, 0), INVALID);
        due("why(0, -1)", x.why(0, -1), INVALID);
        due("why(0, 100)", x.why(0, 100), INVALID);
        due("the one ahead before the weather", x.why(1, 0), 2);
        due("wind before ceiling", x.why(0, 0), 3);
        x.weather(0, 9, 50, 10);
        due("ceiling before sight", x.why(0, 0), 4);
        x.weather(0, 9, 51, 10);
        due("sight before planes", x.why(0, 0), 5);
        x.weather(0, 9, 51, 11);
        due("planes before hours", x.why(0, 0), 7);
        x.set(0, 3);
        due("nothing in the way", x.why(0, 0), 0);
        x.set(2, 8);
        due("hours", x.why(0, 0), 8);
        x.set(2, 9);
        x.set(1, 1);
        due("just enough", x.why(0, 0), 0);
        x.fly(0, 2);
        due("flights before planes", x.why(0, 0), 6);
        x.set(1, 2);
        due("planes taken", x.why(0, 0), 7);
        x.set(0, 6);
        due("hours taken", x.why(0, 0), 8);
        x.set(2, 18);
        x.fly(0, 1);
        due("flown well before all others", x.why(0, 0), 1);
        due("the one ahead is flown", x.why(1, 0), 6);
        easy(x, 0, 1, -1);
        x.set(1, 9);
        x.set(0, 5);
        x.set(2, 99);
        due("more planes already, none of its own", x.why(2, 0), 7);
        x.waive(2);
        due("waived", x.why(2, 0), 1);
    }

    private static void promise9WhyLater() {
        SortieCards x = new SortieCards();
        easy(x, 2, 5, -1);
        easy(x, 0, 8, -1);
        easy(x, 0, 1, 0);
        x.set(1, 1);
        x.pass(3);
        x.fly(0, 2);
        due("today: flights", x.why(0, 0), 6);
        due("tomorrow: nothing of the day is taken", x.why(0, 1), 0);
        due("this week: hours are taken", x.why(1, 3), 8);
        due("next week: none are", x.why(1, 4), 0);
        due("cards are as they are now", x.why(2, 99), 2);
        x.weather(2, 99, 50, 10);
        x.card(98, 0, 0, 0, 1, -1);
        due("weather of the day 30", x.why(3, 27), 3);
        due("weather of the day 86", x.why(3, 83), 3);
        due("weather of the day 29", x.why(3, 26), 0);
        due("why(3, 99)", x.why(3, 99), 0);
        x.weather(18, 99, 50, 10);
        due("weather of the day 102", x.why(3, 99), 3);
    }

    private static void promise10CardOf() {
        SortieCards x = new SortieCards();
        due("cardOf without cards", x.cardOf(0, 0), INVALID);
        x.card(11, 12, 13, 2, 5, -1);
        x.card(99, 0, 0, 0, 1, 0);
        x.card(99, 0, 0, 0, 1, 1);
        x.card(99, 0, 0, 0, 1, 0);
        x.card(99, 0, 0, 0, 1, -1);
        due("cardOf(-1, 0)", x.cardOf(-1, 0), INVALID);
        due("cardOf(5, 0)", x.cardOf(5, 0), INVALID);
        due("cardOf(0, -1)", x.cardOf(0, -1), INVALID);
        due("cardOf(0, 10)", x.cardOf(0, 10), INVALID);
        int[] first = {11, 12, 13, 2, 5, MISSING, 0, 0, 3, 0};
        for (int what = 0; what < first.length; what++) {
            due("cardOf(0, " + what + ")", x.cardOf(0, what), first[what]);
        }
        int[] ahead = {MISSING, 0, 1, 0, MISSING};
        int[] followers = {3, 1, 0, 0, 0};
        int[] steps = {0, 1, 2, 1, 0};
        for (int card = 0; card < 5; card++) {
            due("cardOf(" + card + ", 5)", x.cardOf(card, 5), ahead[card]);
            due("cardOf(" + card + ", 8)", x.cardOf(card, 8), followers[card]);
            due("cardOf(" + card + ", 9)", x.cardOf(card, 9), steps[card]);
        }
        x.fly(4, 2);
        x.fly(4, 1);
        x.reopen(4);
        x.fly(4, 1);
        due("state", x.cardOf(4, 6), 1);
        due("how often it was flown", x.cardOf(4, 7), 3);
        due("how often another was flown", x.cardOf(3, 7), 0);
        x.waive(0);
        due("followers of a waived one", x.cardOf(0, 8), 3);
    }

    private static void promise11FlightOf() {
        SortieCards x = new SortieCards();
        due("flightOf(-1, 0)", x.flightOf(-1, 0), INVALID);
        due("flightOf(0, -1)", x.flightOf(0, -1), INVALID);
        due("flightOf(0, 5)", x.flightOf(0, 5), INVALID);
        due("flightOf(99, 5)", x.flightOf(99, 5), INVALID);
        due("flightOf(0, 0)", x.flightOf(0, 0), MISSING);
        x.card(30, 20, 0, 0, 1, -1);
        x.card(10, 50, 0, 0, 1, -1);
        x.pass(31);
        x.weather(3, 17, 71, 5);
        x.fly(0, 2);
        x.weather(3, 4, 99, 99);
        x.fly(1, 1);
        int[] latest = {1, 31, 1, 6, 49};
        int[] earlier = {0, 31, 2, 13, 51};
        for (int what = 0; what < 5; what++) {
            due("flightOf(0, " + what + ")", x.flightOf(0, what), latest[what]);
            due("flightOf(1, " + what + ")", x.flightOf(1, what), earlier[what]);
        }
        due("flightOf(2, 0)", x.flightOf(2, 0), MISSING);
        due("flightOf(MAX, 0)", x.flightOf(Integer.MAX_VALUE, 0), MISSING);
        x.set(1, 1);
        for (int day = 32; day < 42; day++) {
            x.pass(1);
            x.fly(0, 2);
            due("the latest flight's day", x.flightOf(0, 1), day);
        }
        due("the oldest flight kept", x.flightOf(9, 1), 32);
        due("no eleventh flight", x.flightOf(10, 1), MISSING);
        due("flights so far", x.count(5), 12);
    }

    private static void promise12WeatherOf() {
        SortieCards x = new SortieCards();
        due("weatherOf(-1, 0)", x.weatherOf(-1, 0), INVALID);
        due("weatherOf(28, 0)", x.weatherOf(28, 0), INVALID);
        due("weatherOf(0, -1)", x.weatherOf(0, -1), INVALID);
        due("weatherOf(0, 4)", x.weatherOf(0, 4), INVALID);
        due("weatherOf(0, 3)", x.weatherOf(0, 3), 0);
        x.card(10, 50, 10, 3, 9, -1);
        x.card(9, 50, 10, 0, 1, -1);
        x.card(10, 51, 10, 0, 1, -1);
        x.card(10, 50, 11, 0, 1, -1);
        x.card(99, 0, 0, 0, 1, 1);
        due("the cards for the weather", x.weatherOf(5, 3), 17);
        x.weather(5, 0, 49, 99);
        due("weatherOf(5, 0)", x.weatherOf(5, 0), 0);
        due("weatherOf(5, 1)", x.weatherOf(5, 1), 49);
        due("weatherOf(5, 2)", x.weatherOf(5, 2), 99);
        due("weatherOf(5, 3)", x.weatherOf(5, 3), 16);
        x.waive(4);
        due("also waived ones", x.weatherOf(5, 3), 16);
    }

    private static void promise13Cards() {
        SortieCards x = new SortieCards();
        due("cards(-1)", x.cards(-1), INVALID);
        due("cards(5)", x.cards(5), INVALID);
        easy(x, 0, 1, -1);
        easy(x, 0, 1, -1);
        easy(x, 0, 1, -1);
        easy(x, 3, 1, -1);
        easy(x, 0, 1, 1);
        due("cards(0)", x.cards(0), 31);
        due("cards(4)", x.cards(4), 7);
        x.fly(0, 2);
        x.fly(1, 1);
        x.waive(2);
        due("cards(0)", x.cards(0), 24);
        due("cards(1)", x.cards(1), 2);
        due("cards(2)", x.cards(2), 1);
        due("cards(3)", x.cards(3), 4);
        due("cards(4)", x.cards(4), 17);
        x.fly(4, 2);
        due("cards(4) with all flights taken", x.cards(4), 0);
    }

    private static void promise14First() {
        SortieCards x = new SortieCards();
        due("first(0) without cards", x.first(0), INVALID);
        x.card(5, 0, 0, 0, 6, -1);
        easy(x, 0, 7, -1);
        easy(x, 0, 1, 0);
        due("first(-1)", x.first(-1), INVALID);
        due("first(3)", x.first(3), INVALID);
        due("first with the wind always above", x.first(0), MISSING);
        due("first today", x.first(1), 0);
        due("first behind one that is not flown", x.first(2), MISSING);
        x.pass(3);
        x.weather(2, 5, 0, 0);
        due("first on the day 30", x.first(0), 27);
        x.fly(1, 2);
        due("first in the next week", x.first(1), 4);
        x.waive(1);
        due("first of a waived one", x.first(1), MISSING);
        x = new SortieCards();
        easy(x, 0, 1, -1);
        x.set(1, 1);
        x.fly(0, 2);
        due("first tomorrow", x.first(0), 1);
    }

    private static void promise15Planned() {
        SortieCards x = new SortieCards();
        due("planned(-1, 0)", x.planned(-1, 0), INVALID);
        due("planned(0, -1)", x.planned(0, -1), INVALID);
        due("planned(0, 2)", x.planned(0, 2), INVALID);
        due("planned(0, 0)", x.planned(0, 0), MISSING);
        easy(x, 2, 5, -1);
        easy(x, 1, 4, -1);
        easy(x, 0, 4, 1);
        easy(x, 0, 3, 0);
        // Day 0: 0 (5 hours), 3 (8 hours); day 1: 1 (12 hours); day 7: 2.
        int[] cards = {0, 3, 1, 2};
        int[] days = {0, 0, 1, 7};
        for (int place = 0; place < 4; place++) {
            due("planned(" + place + ", 0)", x.planned(place, 0), cards[place]);
            due("planned(" + place + ", 1)", x.planned(place, 1), days[place]);
        }
        due("planned(4, 0)", x.planned(4, 0), MISSING);
        due("planned(MAX, 0)", x.planned(Integer.MAX_VALUE, 0), MISSING);
        due("nothing is flown by it", x.count(5), 0);
        due("it is no change", x.count(8), 4);
        x.pass(6);
        due("planned(2, 1) at the week's end", x.planned(2, 1), 1);
        due("planned(3, 0) at the week's end", x.planned(3, 0), 2);
        due("planned(3, 1) at the week's end", x.planned(3, 1), 1);
        x.fly(1, 1);
        // Two planes for 0 are not left today; 2 and 3 behind 1 and 0.
        due("with what is taken today", x.planned(0, 0), 2);
        due("with what is taken today", x.planned(0, 1), 0);
        due("the next day", x.planned(1, 0), 0);
        due("the next day", x.planned(1, 1), 1);
    }

    private static void promise16Plan() {
        SortieCards x = new SortieCards();
        due("plan(-1)", x.plan(-1), INVALID);
        due("plan(6)", x.plan(6), INVALID);
        int[] empty = {1, 0, MISSING, 0, 0, 0};
        for (int what = 0; what < 6; what++) {
            due("plan(" + what + ") without cards", x.plan(what), empty[what]);
        }
        easy(x, 1, 2, -1);
        easy(x, 1, 3, 0);
        easy(x, 1, 1, 1);
        easy(x, 3, 1, -1);
        int[] some = {0, 3, 1, 6, 2, 8};
        for (int what = 0; what < 6; what++) {
            due("plan(" + what + ")", x.plan(what), some[what]);
        }
        x.waive(3);
        due("plan(0) with the rest waived", x.plan(0), 1);
        due("plan(5) with the rest waived", x.plan(5), 0);
        x.fly(0, 1);
        x.fly(1, 1);
        // A flight of today is left, but no plane.
        due("plan(2) with no planes left today", x.plan(2), 1);
        due("plan(4) counts its own flights only", x.plan(4), 1);
        due("plan(3) counts its own hours only", x.plan(3), 1);
        due("the state stays", x.cards(0), 4);
    }

    private static void promise16PlanAtItsEnds() {
        SortieCards x = new SortieCards();
        x.card(5, 0, 0, 0, 1, -1);
        easy(x, 0, 2, -1);
        x.weather(27, 5, 0, 0);
        x.pass(28);
        due("plan on the 28th day", x.plan(2), 27);
        x = new SortieCards();
        x.set(1, 1);
        x.set(2, 1);
        for (int card = 0; card < 12; card++) {
            easy(x, 0, 1, card - 1);
        }
        due("one flight a week", x.plan(2), 77);
        due("one flight a day", x.plan(4), 1);
        due("all are flown", x.plan(0), 1);
        x = new SortieCards();
        for (int card = 0; card < 5; card++) {
            x.card(5, 0, 0, 0, 1, -1);
        }
        x.set(1, 1);
        x.weather(15, 5, 0, 0);
        // The days 15, 43, 71 and 99 are in the plan, 127 is not.
        due("the last day of the plan", x.plan(2), 99);
        due("flights up to there", x.plan(1), 4);
        due("left behind it", x.plan(5), 16);
        x.weather(15, 6, 0, 0);
        x.weather(16, 5, 0, 0);
        due("a day behind the plan", x.plan(2), 72);
        for (int n = 0; n < 10; n++) {
            x.pass(99);
        }
        x.pass(9);
        x.weather(15, 5, 0, 0);
        // Today is 999, which is the day 19 modulo 28: the day 15 comes in 24, 52 and 80 days, and 16 behind it.
        due("beyond the last day", x.plan(2), 80);
        due("flights beyond the last day", x.plan(1), 5);
    }

    private static void promise17Worst() {
        SortieCards x = new SortieCards();
        due("worst(-1)", x.worst(-1), INVALID);
        due("worst(2)", x.worst(2), INVALID);
        due("worst(0) without cards", x.worst(0), MISSING);
        due("worst(1) without cards", x.worst(1), MISSING);
        easy(x, 0, 1, -1);
        easy(x, 3, 9, 0);
        due("2 is no reason to count", x.worst(0), MISSING);
        x.card(99, 51, 0, 0, 1, -1);
        x.card(99, 0, 11, 0, 1, -1);
        due("of several the lowest", x.worst(0), 4);
        due("how often", x.worst(1), 28);
        x.weather(9, 10, 51, 10);
        due("27 against 28", x.worst(0), 5);
        due("28", x.worst(1), 28);
        x.waive(2);
        x.waive(3);
        due("waived cards don't count", x.worst(0), MISSING);
        x.set(1, 1);
        x.fly(0, 2);
        due("flights of today", x.worst(0), 6);
        due("flights of today, once", x.worst(1), 1);
        x.set(2, 1);
        due("hours of the week", x.worst(0), 8);
        due("hours of the rest of the week", x.worst(1), 6);
        x.set(2, 2);
        x.fly(0, 1);
        due("fly on a full day changes nothing", x.worst(0), 6);
    }

    private static void promise18Count() {
        SortieCards x = new SortieCards();
        int[] wrongOnes = {-1, 10, 11, 19, 23, Integer.MIN_VALUE, Integer.MAX_VALUE};
        for (int what : wrongOnes) {
            due("count(" + what + ")", x.count(what), INVALID);
        }
        easy(x, 1, 3, -1);
        easy(x, 1, 2, -1);
        x.fly(0, 2);
        x.pass(2);
        x.fly(0, 2);
        x.fly(1, 1);
        x.type('f');
        x.set(0, 7);
        x.set(1, 8);
        x.set(2, 9);
        int[] counts = {2, 2, 2, 2, 8, 3, 2, 8, 4, 1};
        for (int what = 0; what < counts.length; what++) {
            due("count(" + what + ")", x.count(what), counts[what]);
        }
        due("count(20)", x.count(20), 7);
        due("count(21)", x.count(21), 8);
        due("count(22)", x.count(22), 9);
    }

    private static void promise19Undo() {
        SortieCards x = new SortieCards();
        due("undo of nothing", x.undo(), IMPOSSIBLE);
        for (int n = 0; n < 6; n++) {
            easy(x, 0, 1, -1);
            due("states kept", x.count(8), Math.min(n + 1, 4));
        }
        x.type('d');
        x.fly(6, 1);
        x.why(0, 0);
        x.plan(0);
        due("errors and questions are no changes", x.count(8), 4);
        for (int left = 3; left >= 0; left--) {
            due("undo()", x.undo(), left);
            due("cards then", x.count(0), left + 2);
        }
        due("undo of an empty history", x.undo(), IMPOSSIBLE);
        due("cards stay", x.count(0), 2);
        due("the text stays", x.count(9), 1);
        easy(x, 3, 9, 1);
        due("a change after undo", x.count(8), 1);
        due("undo of it", x.undo(), 0);
    }

    private static void promise19UndoOfEachChange() {
        SortieCards x = new SortieCards();
        x.set(1, 9);
        easy(x, 1, 1, -1);
        easy(x, 1, 1, 0);
        x.fly(0, 2);
        x.undo();
        due("undo of fly: state", x.cardOf(0, 6), 0);
        due("undo of fly: times", x.cardOf(0, 7), 0);
        due("undo of fly: kept", x.flightOf(0, 0), MISSING);
        for (int what = 2; what <= 7; what++) {
            due("undo of fly: count(" + what + ")", x.count(what), 0);
        }
        x.weather(4, 1, 2, 3);
        x.undo();
        due("undo of weather", x.weatherOf(4, 0), 10);
        x.set(0, 5);
        x.undo();
        due("undo of set", x.count(20), 2);
        x.fly(0, 1);
        x.fly(1, 1);
        x.pass(9);
        x.undo();
        due("undo of pass: today", x.count(1), 0);
        due("undo of pass: flights", x.count(2), 2);
        due("undo of pass: planes", x.count(3), 2);
        due("undo of pass: hours", x.count(4), 2);
        x.reopen(0);
        x.undo();
        due("undo of reopen", x.cards(1), 3);
        easy(x, 0, 1, -1);
        x.waive(2);
        x.undo();
        due("undo of waive", x.cards(0), 4);
        for (int n = 0; n < 11; n++) {
            x.pass(1);
            x.fly(2, 2);
        }
        due("the oldest kept", x.flightOf(9, 1), 2);
        x.undo();
        due("undo brings back the oldest kept", x.flightOf(9, 1), 1);
        due("and the latest", x.flightOf(0, 1), 10);
    }

    private static void promise20Type() {
        SortieCards x = new SortieCards();
        due("type(31)", x.type(31), INVALID);
        due("type(127)", x.type(127), INVALID);
        due("type(-1)", x.type(-1), INVALID);
        due("type(32)", x.type(32), 1);
        due("type(126)", x.type(126), 2);
        for (int length = 3; length <= 60; length++) {
            due("type to " + length, x.type('c'), length);
        }
        due("type beyond 60", x.type('c'), LIMIT);
        due("type a wrong one beyond 60", x.type(31), INVALID);
        due("length", x.count(9), 60);
        due("type is no change", x.count(8), 0);
    }

    private static void promise21ClearText() {
        SortieCards x = new SortieCards();
        due("clearText() of nothing", x.clearText(), 0);
        write(x, "d1;d2;");
        due("clearText()", x.clearText(), 6);
        due("clearText() again", x.clearText(), 0);
        due("length", x.count(9), 0);
        due("play() of nothing", x.play(), 0);
        write(x, "d");
        due("the rest of an earlier text is gone", x.fault(2), 1);
        due("clearText is no change", x.count(8), 1);
    }

    private static void promise22FaultOfForm() {
        SortieCards x = new SortieCards();
        due("fault(-1)", x.fault(-1), INVALID);
        due("fault(3)", x.fault(3), INVALID);
        due("fault(0) of an empty text", x.fault(0), MISSING);
        easy(x, 0, 1, -1);
        dueFault(x, " ", 0, 1, 0);
        dueFault(x, ";", 0, 1, 0);
        dueFault(x, "7", 0, 1, 0);
        dueFault(x, "F0;", 0, 1, 0);
        dueFault(x, "f", 0, 1, 1);
        dueFault(x, "f;", 0, 1, 1);
        dueFault(x, "f-1;", 0, 1, 1);
        dueFault(x, "f0", 0, 1, 2);
        dueFault(x, "f0,", 0, 1, 2);
        dueFault(x, "f00", 0, 1, 3);
        dueFault(x, "f000;", 0, 1, 3);
        dueFault(x, "f0 ;", 0, 1, 2);
        dueFault(x, "f/;", 0, 1, 1);
        dueFault(x, "f:;", 0, 1, 1);
        dueFault(x, "d1;d2;z", 6, 1, 0);
        dueFault(x, "d1;x0;d100;", 6, 1, 3);
        dueFault(x, "w1,2,3;", 0, 1, 6);
        dueFault(x, "w1,2,3,4,", 0, 1, 8);
        dueFault(x, "w27,99,99,", 0, 1, 10);
        dueFault(x, "c1,2,3,0,5;", 0, 1, 10);
        dueFault(x, "c1,2,3,0,5,0,", 0, 1, 12);
        dueFault(x, "c1,,", 0, 1, 3);
        dueFault(x, "f0;f0", 3, 1, 2);
        due("a fault changes nothing", x.count(5), 0);
        due("a fault is no change", x.count(8), 1);
    }

    private static void promise22FaultOfCall() {
        SortieCards x = new SortieCards();
        easy(x, 0, 1, -1);
        dueFault(x, "f1;", 0, 2, INVALID);
        dueFault(x, "x99;", 0, 2, INVALID);
        dueFault(x, "d0;", 0, 2, INVALID);
        dueFault(x, "w28,0,0,0;", 0, 2, INVALID);
        dueFault(x, "c0,0,0,4,1,0;", 0, 2, INVALID);
        dueFault(x, "c0,0,0,0,0,0;", 0, 2, INVALID);
        dueFault(x, "c0,0,0,0,10,0;", 0, 2, INVALID);
        dueFault(x, "c0,0,0,0,1,2;", 0, 2, INVALID);
        dueFault(x, "c0,0,0,0,1,1;c0,0,0,0,1,3;c0,0,0,0,1,2;", 13, 2, INVALID);
        dueFault(x, "f0;f0;", 3, 2, IMPOSSIBLE);
        dueFault(x, "x0;x0;x0;x0;", 9, 2, IMPOSSIBLE);
        dueFault(x, "f0;w00,00,00,00;f00;zzz", 16, 2, IMPOSSIBLE);
        for (int n = 0; n < 10; n++) {
            x.pass(99);
        }
        dueFault(x, "d9;d1;", 3, 2, LIMIT);
        for (int card = 1; card < 11; card++) {
            easy(x, 0, 1, -1);
        }
        dueFault(x, "c0,0,0,0,1,0;c0,0,0,0,1,0;", 13, 2, LIMIT);
        write(x, "x0;x0;d1;x0;");
        due("fault(0) of a text without one", x.fault(0), MISSING);
        due("fault(1) of a text without one", x.fault(1), MISSING);
        due("fault(2) of a text without one", x.fault(2), MISSING);
        due("fault does no order", x.count(5), 0);
    }

    private static void promise23Play() {
        SortieCards x = new SortieCards();
        due("play() of an empty text", x.play(), 0);
        due("play() of an empty text is a change", x.count(8), 1);
        write(x, "c12,34,05,1,9,0;c99,00,0,0,3,1;w7,1,60,40;f0;x1;d1;");
        due("play()", x.play(), 6);
        due("the text stays", x.count(9), 51);
        due("one change", x.count(8), 2);
        int[] first = {12, 34, 5, 1, 9, MISSING, 1, 1};
        int[] second = {99, 0, 0, 0, 3, 0, 2, 1};
        for (int what = 0; what < 8; what++) {
            due("played: cardOf(0, " + what + ")", x.cardOf(0, what), first[what]);
            due("played: cardOf(1, " + what + ")", x.cardOf(1, what), second[what]);
        }
        due("played: weather", x.weatherOf(7, 0) * 10000 + x.weatherOf(7, 1) * 100 + x.weatherOf(7, 2), 16040);
        due("played: today", x.count(1), 1);
        due("played: flights", x.count(5), 2);
        due("play() again is not possible", x.play(), IMPOSSIBLE);
        due("nothing by that", x.count(0), 2);
        due("undo of all at once", x.undo(), 1);
        due("no cards then", x.count(0), 0);
        due("today then", x.count(1), 0);
        due("the text is there still", x.play(), 6);
        write(x, "d1;d1;d1;d1;d1;d1;d1;d1;d1;d1;d1;d1;d1;d1;d1;d1;d1;d1;d1;d1;");
        due("play() of a full text", x.play(), 20);
        due("today behind it", x.count(1), 21);
    }

    /** What a plan, a fault or an error has tried may not come in with the next change. */
    private static void questionsAndErrorsChangeNothing() {
        for (int change = 0; change < 8; change++) {
            SortieCards x = new SortieCards();
            easy(x, 1, 2, -1);
            easy(x, 1, 2, 0);
            easy(x, 1, 2, -1);
            x.waive(2);
            write(x, "d9;f0;w3,1,2,3;z");
            due("fault(0)", x.fault(0), 15);
            due("play() of a fault", x.play(), IMPOSSIBLE);
            due("plan(1)", x.plan(1), 2);
            if (change % 2 == 1) {
                x.fault(1);
            }
            if (change / 2 == 0) {
                due("weather behind questions", x.weather(9, 99, 0, 0), 3);
            } else if (change / 2 == 1) {
                due("waive behind questions", x.waive(1), 0);
            } else if (change / 2 == 2) {
                due("reopen behind questions", x.reopen(2), 1);
            } else {
                due("set behind questions", x.set(2, 20), 12);
            }
            due("today stays", x.count(1), 0);
            due("flights stay", x.count(5), 0);
            due("card 0 stays", x.cardOf(0, 6), 0);
            due("weather of the day 3 stays", x.weatherOf(3, 0), 10);
        }
    }
}
