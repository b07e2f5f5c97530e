/** The boundary sentences of the promises 4 to 8: flights, waiving, opening anew, days, settings. */
public final class FlightBoundariesTest extends Boundaries {
    public static void main(String[] args) {
        runAll(FlightBoundariesTest.class);
    }

    // ---- promise 4: fly

    static void promise4Card() {
        Run x = sentence(4, "INVALID_ARGUMENT if an argument is out of range (card: number of the card)");
        x.due(INVALID, "fly", 0, 1);
        easyCards(x, 1);
        x.refuses(0, 0, 0, "fly", 0, 1);
        x.due(1, "fly", 0, 1);
        muchRoom(x);
        easyCards(x, 11);
        x.refuses(0, 0, 11, "fly", 0, 2);
        x.due(2, "fly", 11, 2);
    }

    static void promise4Result() {
        Run x = sentence(4, "result: 1: it goes well; 2: badly");
        easyCards(x, 2);
        x.refuses(1, 1, 2, "fly", 0, 1);
        x.due(1, "fly", 0, 1);
        x.due(2, "fly", 1, 2);
        x.due(1, "cardOf", 0, 6);
        x.due(2, "cardOf", 1, 6);
        x.due(1, "flightOf", 1, 2);
        x.due(2, "flightOf", 0, 2);
        x.due(1, "count", 6);
    }

    static void promise4RangeAheadOfImpossible() {
        Run x = sentence(4, "INVALID_ARGUMENT is returned rather than NOT_POSSIBLE");
        easyCards(x, 1);
        easy(x, 0, 1, 0);
        x.due(IMPOSSIBLE, "fly", 1, 1);
        x.refuses(1, 1, 2, "fly", 1, 1);
        x.does("fly", 0, 1);
        x.due(IMPOSSIBLE, "fly", 0, 2);
        x.refuses(1, 1, 2, "fly", 0, 1);
    }

    static void promise4FlightsToday() {
        Run x = sentence(4, "Returns how many flights there were today then");
        muchRoom(x);
        easyCards(x, 2);
        for (int flights = 1; flights <= 8; flights++) {
            x.due(flights, "fly", 0, 2);
        }
        x.due(9, "fly", 1, 1);
        x.due(IMPOSSIBLE, "fly", 0, 2);
        x.does("pass", 1);
        x.due(1, "fly", 0, 1);
        x.due(10, "count", 5);
    }

    static void promise4EachReason() {
        Run x = sentence(4, "NOT_POSSIBLE if it cannot be flown");
        easyCards(x, 2);
        easy(x, 0, 1, 1);
        x.does("card", 9, 0, 0, 0, 1, -1);
        x.does("card", 99, 51, 0, 0, 1, -1);
        x.does("card", 99, 0, 11, 0, 1, -1);
        easy(x, 3, 1, -1);
        easy(x, 2, 9, -1);
        x.does("set", 2, 9);
        x.does("fly", 0, 1);
        for (int card = 0; card <= 7; card++) {
            if (card != 1) {
                x.due(IMPOSSIBLE, "fly", card, 1);
                x.due(IMPOSSIBLE, "fly", card, 2);
            }
        }
        x.does("waive", 1);
        x.due(IMPOSSIBLE, "fly", 1, 1);
        x.does("set", 1, 1);
        x.due(IMPOSSIBLE, "fly", 2, 1);
        x.does("set", 1, 2);
        x.due(2, "fly", 2, 1);
    }

    static void promise4LimitsReachedExactly() {
        Run x = sentence(4, "3: the wind is above its limit; 4: the ceiling is below its limit; 5: the sight is below its limit");
        x.does("card", 10, 50, 10, 0, 1, -1);
        x.does("card", 9, 50, 10, 0, 1, -1);
        x.does("card", 10, 51, 10, 0, 1, -1);
        x.does("card", 10, 50, 11, 0, 1, -1);
        x.due(1, "fly", 0, 1);
        for (int card = 1; card <= 3; card++) {
            x.due(IMPOSSIBLE, "fly", card, 1);
            x.due(2 + card, "why", card, 0);
        }
    }

    static void promise4PlanesOfTheDay() {
        Run x = sentence(4, "On a day at most as many planes can go along as there are (setting 0), counted over all flights of the day");
        muchRoom(x);
        x.does("set", 0, 4);
        easy(x, 3, 1, -1);
        easy(x, 1, 1, -1);
        easy(x, 0, 1, -1);
        x.due(1, "fly", 0, 2);
        x.due(IMPOSSIBLE, "fly", 0, 1);
        x.due(2, "fly", 1, 2);
        x.due(4, "count", 3);
        x.due(IMPOSSIBLE, "fly", 1, 1);
        x.due(3, "fly", 2, 1);
        x.does("pass", 1);
        x.due(0, "count", 3);
        x.due(1, "fly", 1, 1);
    }

    static void promise4NoPlanes() {
        Run x = sentence(4, "planes that go along: setting 0 (0 to 9)");
        x.does("set", 0, 0);
        easy(x, 0, 1, -1);
        easy(x, 1, 1, -1);
        x.due(IMPOSSIBLE, "fly", 1, 1);
        x.due(1, "fly", 0, 1);
    }

    static void promise4MorePlanesThanThereAre() {
        Run x = sentence(4, "also if there are more already, and the card has no planes");
        easy(x, 2, 1, -1);
        easy(x, 0, 1, -1);
        x.does("fly", 0, 1);
        x.does("set", 0, 1);
        x.due(IMPOSSIBLE, "fly", 1, 1);
        x.does("set", 0, 2);
        x.due(2, "fly", 1, 1);
    }

    static void promise4FlightsOfTheDay() {
        Run x = sentence(4, "at most as many flights can be flown (setting 1)");
        easyCards(x, 2);
        x.due(1, "fly", 0, 2);
        x.due(2, "fly", 0, 2);
        x.due(3, "fly", 0, 2);
        x.due(IMPOSSIBLE, "fly", 1, 1);
        x.does("set", 1, 4);
        x.due(4, "fly", 1, 1);
        x.does("set", 1, 1);
        x.due(IMPOSSIBLE, "fly", 0, 1);
        x.does("pass", 1);
        x.due(1, "fly", 0, 2);
        x.due(IMPOSSIBLE, "fly", 0, 1);
    }

    static void promise4HoursOfTheWeek() {
        Run x = sentence(4, "In a week (...) at most as many hours of telemetry can be taken (setting 2).");
        easy(x, 0, 9, -1);
        easy(x, 0, 4, -1);
        easy(x, 0, 3, -1);
        x.due(1, "fly", 0, 2);
        x.due(IMPOSSIBLE, "fly", 1, 1);
        x.does("pass", 1);
        x.due(1, "fly", 2, 1);
        x.due(12, "count", 4);
        x.due(IMPOSSIBLE, "fly", 1, 1);
        x.does("pass", 5);
        x.due(IMPOSSIBLE, "fly", 1, 1);
        x.does("pass", 1);
        x.due(1, "fly", 1, 1);
        x.due(4, "count", 4);
        x.due(16, "count", 7);
    }

    static void promise4WellOrBadly() {
        Run x = sentence(4, "A flight takes planes, a flight and hours, whether it goes well (the card's state becomes 1) or badly (it becomes 2).");
        for (int result = 1; result <= 2; result++) {
            x = result == 1 ? x : another();
            easy(x, 2, 7, -1);
            x.due(1, "fly", 0, result);
            x.due(result, "cardOf", 0, 6);
            x.due(1, "cardOf", 0, 7);
            x.due(1, "count", 2);
            x.due(2, "count", 3);
            x.due(7, "count", 4);
            x.due(1, "count", 5);
            x.due(result - 1, "count", 6);
            x.due(7, "count", 7);
        }
    }

    static void promise4AgainUntilWell() {
        Run x = sentence(4, "1: it is flown well already, or waived");
        easyCards(x, 1);
        x.due(1, "fly", 0, 2);
        x.due(2, "fly", 0, 2);
        x.due(3, "fly", 0, 1);
        x.does("pass", 1);
        x.due(IMPOSSIBLE, "fly", 0, 1);
        x.due(IMPOSSIBLE, "fly", 0, 2);
        x.due(3, "cardOf", 0, 7);
    }

    static void promise4OneAhead() {
        Run x = sentence(4, "2: the card that has to be ahead of it is neither flown well nor waived");
        muchRoom(x);
        chain(x, 3);
        x.due(IMPOSSIBLE, "fly", 1, 1);
        x.does("fly", 0, 2);
        x.due(IMPOSSIBLE, "fly", 1, 1);
        x.does("waive", 0);
        x.due(2, "fly", 1, 1);
        x.due(3, "fly", 2, 2);
        x.does("reopen", 0);
        x.due(IMPOSSIBLE, "fly", 1, 1);
        x.due(IMPOSSIBLE, "fly", 2, 1);
        x.does("fly", 0, 1);
        x.due(IMPOSSIBLE, "fly", 2, 1);
        x.due(5, "fly", 1, 1);
    }

    // ---- promise 5: waive

    static void promise5Card() {
        Run x = sentence(5, "Returns the state that it had; INVALID_ARGUMENT");
        x.due(INVALID, "waive", 0);
        easyCards(x, 12);
        x.refuses(0, 0, 11, "waive", 0);
        x.due(0, "waive", 0);
        x.due(0, "waive", 11);
        x.due(1 << 11 | 1, "cards", 3);
    }

    static void promise5StateItHad() {
        Run x = sentence(5, "Returns the state that it had");
        easyCards(x, 2);
        x.does("fly", 1, 2);
        x.due(0, "waive", 0);
        x.due(2, "waive", 1);
        x.due(3, "cardOf", 0, 6);
        x.due(3, "cardOf", 1, 6);
    }

    static void promise5Impossible() {
        Run x = sentence(5, "NOT_POSSIBLE if it is flown well or waived");
        easyCards(x, 2);
        x.does("fly", 0, 1);
        x.does("waive", 1);
        x.due(IMPOSSIBLE, "waive", 0);
        x.due(IMPOSSIBLE, "waive", 1);
        x.due(1, "cardOf", 0, 6);
        x.does("reopen", 1);
        x.due(2, "waive", 1);
    }

    static void promise5CountsAsFlownWell() {
        Run x = sentence(5, "3 waived (which counts as flown well for other cards)");
        chain(x, 3);
        x.due(2, "why", 1, 0);
        x.does("waive", 0);
        x.due(0, "why", 1, 0);
        x.due(2, "why", 2, 0);
        x.due(0, "waive", 2);
        x.due(1, "why", 2, 0);
    }

    static void promise5TakesNothing() {
        Run x = sentence(5, "Waives a card.");
        easy(x, 2, 9, -1);
        x.does("waive", 0);
        for (int what = 1; what <= 7; what++) {
            x.due(0, "count", what);
        }
        x.due(0, "cardOf", 0, 7);
        x.due(MISSING, "flightOf", 0, 0);
    }

    // ---- promise 6: reopen

    static void promise6Card() {
        Run x = sentence(6, "Returns how many cards become 2 by that; INVALID_ARGUMENT");
        x.due(INVALID, "reopen", 0);
        easyCards(x, 12);
        x.does("waive", 0);
        x.does("waive", 11);
        x.refuses(0, 0, 11, "reopen", 0);
        x.due(1, "reopen", 0);
        x.due(1, "reopen", 11);
        x.due(1 << 11 | 1, "cards", 2);
    }

    static void promise6Impossible() {
        Run x = sentence(6, "NOT_POSSIBLE if it is neither");
        easyCards(x, 2);
        x.does("fly", 1, 2);
        x.due(IMPOSSIBLE, "reopen", 0);
        x.due(IMPOSSIBLE, "reopen", 1);
        x.does("fly", 1, 1);
        x.due(1, "reopen", 1);
        x.due(IMPOSSIBLE, "reopen", 1);
        x.does("waive", 0);
        x.due(1, "reopen", 0);
        x.due(IMPOSSIBLE, "reopen", 0);
    }

    static void promise6FollowersByManySteps() {
        Run x = sentence(6, "so does that of each card that is flown well and has it ahead of it, by one or more steps");
        muchRoom(x);
        chain(x, 12);
        for (int card = 0; card < 9; card++) {
            x.does("fly", card, 1);
        }
        x.does("pass", 1);
        for (int card = 9; card < 12; card++) {
            x.does("fly", card, 1);
        }
        x.due(1, "reopen", 11);
        x.due(1, "reopen", 10);
        x.due(10, "reopen", 0);
        x.due(4095, "cards", 2);
        x.does("undo");
        x.does("undo");
        x.does("undo");
        x.due(4095, "cards", 1);
        x.due(12, "reopen", 0);
        x.due(0, "cards", 1);
    }

    static void promise6OnlyThoseBehindIt() {
        Run x = sentence(6, "each card that is flown well and has it ahead of it");
        muchRoom(x);
        easyCards(x, 2);
        easy(x, 0, 1, 0);
        easy(x, 0, 1, 1);
        easy(x, 0, 1, 2);
        easy(x, 0, 1, 2);
        for (int card = 0; card < 6; card++) {
            x.does("fly", card, 1);
        }
        x.due(3, "reopen", 2);
        x.due(2 + 8 + 1, "cards", 1);
        x.due(4 + 16 + 32, "cards", 2);
        x.due(2, "reopen", 1);
        x.due(1, "cards", 1);
    }

    /** The card 1 between is in this state, the card 2 is waived, and the card 3 is flown well. */
    private static Run withOneBetween(Run x, int state) {
        muchRoom(x);
        chain(x, 4);
        x.does("fly", 0, 1);
        if (state == 1 || state == 2) {
            x.does("fly", 1, state);
        }
        if (state == 3) {
            x.does("waive", 1);
        }
        x.does("waive", 2);
        x.does("fly", 3, 1);
        x.due(state, "cardOf", 1, 6);
        return x;
    }

    static void promise6OpenBetween() {
        Run x = withOneBetween(sentence(6, "(whatever the state of those between is): open"), 0);
        x.due(2, "reopen", 0);
        dueAll(x, "cards", 2, 0, 8 + 1, 4);
    }

    static void promise6WellBetween() {
        Run x = withOneBetween(sentence(6, "(whatever the state of those between is): flown well"), 1);
        x.due(3, "reopen", 0);
        dueAll(x, "cards", 0, 0, 8 + 2 + 1, 4);
    }

    static void promise6AgainBetween() {
        Run x = withOneBetween(sentence(6, "(whatever the state of those between is): to be flown again"), 2);
        x.due(2, "reopen", 0);
        dueAll(x, "cards", 0, 0, 8 + 2 + 1, 4);
    }

    static void promise6WaivedBetween() {
        Run x = withOneBetween(sentence(6, "(whatever the state of those between is): waived"), 3);
        x.due(2, "reopen", 0);
        dueAll(x, "cards", 0, 0, 8 + 1, 4 + 2);
    }

    static void promise6OfAWaivedOne() {
        Run x = sentence(6, "Opens a card anew that is flown well or waived.");
        chain(x, 3);
        x.does("waive", 0);
        x.does("fly", 1, 1);
        x.does("fly", 2, 1);
        x.due(3, "reopen", 0);
        x.due(7, "cards", 2);
    }

    static void promise6WhatWasTakenStays() {
        Run x = sentence(6, "When a card is opened anew, its state becomes 2");
        easy(x, 2, 5, -1);
        x.does("fly", 0, 1);
        x.does("reopen", 0);
        int[] counts = {1, 0, 1, 2, 5, 1, 0, 5, 3, 0};
        dueAll(x, "count", counts);
        x.due(1, "cardOf", 0, 7);
        x.due(1, "flightOf", 0, 2);
        x.due(7, "why", 0, 0);
    }

    // ---- promise 7: pass

    static void promise7Days() {
        Run x = sentence(7, "days: 1 to 99");
        x.refuses(0, 1, 99, "pass", 0);
        x.due(1, "pass", 1);
        x.due(100, "pass", 99);
        x.due(100, "count", 1);
    }

    static void promise7Above999() {
        Run x = sentence(7, "LIMIT_REACHED if it would be above 999");
        passTo(x, 0, 998);
        x.due(LIMIT, "pass", 2);
        x.due(LIMIT, "pass", 99);
        x.due(999, "pass", 1);
        x.due(LIMIT, "pass", 1);
        x.due(LIMIT, "pass", 99);
        x.due(999, "count", 1);
    }

    static void promise7MostDaysTo999() {
        Run x = sentence(7, "LIMIT_REACHED if it would be above 999");
        passTo(x, 0, 900);
        x.due(999, "pass", 99);
        Run y = another();
        passTo(y, 0, 901);
        y.due(LIMIT, "pass", 99);
        y.due(999, "pass", 98);
    }

    static void promise7RangeAheadOfLimit() {
        Run x = sentence(7, "INVALID_ARGUMENT is returned rather than ... LIMIT_REACHED");
        passTo(x, 0, 999);
        x.refuses(0, 1, 99, "pass", 0);
    }

    static void promise7DayIsNew() {
        Run x = sentence(7, "On a day at most as many planes can go along as there are (...), and at most as many flights can be flown");
        easy(x, 2, 1, -1);
        x.does("fly", 0, 2);
        x.does("pass", 1);
        x.due(0, "count", 2);
        x.due(0, "count", 3);
        x.due(1, "count", 5);
        x.due(1, "fly", 0, 2);
        x.does("pass", 28);
        x.due(0, "count", 2);
        x.due(0, "count", 3);
        x.due(2, "count", 5);
    }

    static void promise7Week() {
        Run x = sentence(7, "In a week (days from one that can be divided by 7 up to the next such)");
        easy(x, 0, 3, -1);
        x.does("fly", 0, 2);
        x.does("pass", 6);
        x.due(3, "count", 4);
        x.does("fly", 0, 2);
        x.due(6, "count", 4);
        x.does("pass", 1);
        x.due(0, "count", 4);
        x.does("fly", 0, 2);
        x.does("pass", 6);
        x.due(3, "count", 4);
        x.does("pass", 1);
        x.due(0, "count", 4);
        x.due(14, "count", 1);
    }

    static void promise7SameDayOfTheWeek() {
        Run x = sentence(7, "In a week (days from one that can be divided by 7 up to the next such)");
        easy(x, 0, 3, -1);
        x.does("pass", 3);
        x.does("fly", 0, 2);
        x.does("pass", 7);
        x.due(0, "count", 4);
        x.does("fly", 0, 2);
        x.does("pass", 3);
        x.due(3, "count", 4);
        x.does("pass", 98);
        x.due(0, "count", 4);
    }

    static void promise7LastWeek() {
        Run x = sentence(7, "In a week (days from one that can be divided by 7 up to the next such)");
        // 994 can be divided by 7.
        easy(x, 0, 3, -1);
        passTo(x, 0, 993);
        x.does("fly", 0, 2);
        x.does("pass", 1);
        x.due(0, "count", 4);
        x.does("fly", 0, 2);
        x.does("pass", 5);
        x.due(3, "count", 4);
        x.due(6, "count", 7);
    }

    // ---- promise 8: set

    static void promise8What() {
        Run x = sentence(8, "what: 0 to 2");
        x.refuses(0, 0, 2, "set", 0, 1);
        x.due(2, "set", 0, 1);
        x.due(12, "set", 2, 1);
    }

    static void promise8Planes() {
        Run x = sentence(8, "The settings are (in parentheses: range; first value): 0 (0 to 9; 2)");
        x.refuses(1, 0, 9, "set", 0, 0);
        x.due(2, "set", 0, 0);
        x.due(0, "set", 0, 9);
        x.due(9, "count", 20);
        x.due(9, "set", 0, 9);
    }

    static void promise8Flights() {
        Run x = sentence(8, "The settings are (in parentheses: range; first value): 1 (1 to 9; 3)");
        x.refuses(1, 1, 9, "set", 1, 0);
        x.due(3, "set", 1, 1);
        x.due(1, "set", 1, 9);
        x.due(9, "count", 21);
        x.due(9, "set", 1, 9);
    }

    static void promise8Hours() {
        Run x = sentence(8, "The settings are (in parentheses: range; first value): 2 (1 to 99; 12)");
        x.refuses(1, 1, 99, "set", 2, 0);
        x.due(12, "set", 2, 1);
        x.due(1, "set", 2, 99);
        x.due(99, "count", 22);
        x.due(99, "set", 2, 99);
    }

    static void promise8EachApart() {
        Run x = sentence(8, "Returns what it was");
        x.does("set", 1, 5);
        x.due(2, "count", 20);
        x.due(5, "count", 21);
        x.due(12, "count", 22);
        x.due(2, "set", 0, 7);
        x.due(12, "set", 2, 50);
        x.due(5, "set", 1, 6);
    }

    static void promise8TakenPlanesStay() {
        Run x = sentence(8, "Sets a setting (what has been taken already stays, even if it is more).");
        easy(x, 2, 1, -1);
        x.does("fly", 0, 2);
        x.due(2, "set", 0, 0);
        x.due(2, "count", 3);
        x.due(7, "why", 0, 0);
        x.due(0, "set", 0, 4);
        x.due(0, "why", 0, 0);
    }

    static void promise8TakenFlightsStay() {
        Run x = sentence(8, "Sets a setting (what has been taken already stays, even if it is more).");
        easyCards(x, 1);
        x.does("fly", 0, 2);
        x.does("fly", 0, 2);
        x.does("fly", 0, 2);
        x.due(3, "set", 1, 1);
        x.due(3, "count", 2);
        x.due(6, "why", 0, 0);
        x.due(1, "set", 1, 4);
        x.due(4, "fly", 0, 1);
    }

    static void promise8TakenHoursStay() {
        Run x = sentence(8, "Sets a setting (what has been taken already stays, even if it is more).");
        easy(x, 0, 9, -1);
        easy(x, 0, 1, -1);
        x.does("fly", 0, 2);
        x.due(12, "set", 2, 8);
        x.due(9, "count", 4);
        x.due(8, "why", 1, 0);
        x.due(8, "set", 2, 9);
        x.due(8, "why", 1, 0);
        x.due(9, "set", 2, 10);
        x.due(0, "why", 1, 0);
    }
}
