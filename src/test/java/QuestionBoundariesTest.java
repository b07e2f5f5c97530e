/** The boundary sentences of the promises 9 to 13: why a card cannot be flown, and what there is. */
public final class QuestionBoundariesTest extends Boundaries {
    public static void main(String[] args) {
        runAll(QuestionBoundariesTest.class);
    }

    // ---- promise 9: why

    static void promise9Card() {
        Run x = sentence(9, "Returns 0 to 8; INVALID_ARGUMENT if an argument is out of range (card: number of the card)");
        x.due(INVALID, "why", 0, 0);
        easyCards(x, 12);
        x.refuses(0, 0, 11, "why", 0, 0);
        x.due(0, "why", 0, 0);
        x.due(0, "why", 11, 0);
    }

    static void promise9Later() {
        Run x = sentence(9, "later: 0 to 99: in how many days (0: today)");
        easyCards(x, 1);
        x.refuses(1, 0, 99, "why", 0, 0);
        x.due(0, "why", 0, 0);
        x.due(0, "why", 0, 99);
        x.does("fly", 0, 1);
        x.refuses(1, 0, 99, "why", 0, 0);
    }

    static void promise9DoneBeforeOneAhead() {
        Run x = sentence(9, "the first of these that is so: 1: it is flown well already, or waived; 2: the card that has to be ahead of it");
        chain(x, 2);
        x.due(2, "why", 1, 0);
        x.does("waive", 1);
        x.due(1, "why", 1, 0);
        x.due(1, "why", 1, 99);
        x.does("fly", 0, 1);
        x.due(1, "why", 0, 0);
        x.due(1, "why", 0, 99);
    }

    static void promise9OneAheadBeforeWind() {
        Run x = sentence(9, "the first of these that is so: 2: ...; 3: the wind is above its limit");
        easyCards(x, 1);
        x.does("card", 9, 99, 99, 3, 9, 0);
        x.due(2, "why", 1, 0);
        x.does("waive", 0);
        x.due(3, "why", 1, 0);
    }

    static void promise9WindBeforeCeiling() {
        Run x = sentence(9, "the first of these that is so: 3: the wind is above its limit; 4: the ceiling is below its limit");
        x.does("card", 10, 51, 11, 3, 9, -1);
        x.does("weather", 0, 11, 50, 10);
        x.due(3, "why", 0, 0);
        x.does("weather", 0, 10, 50, 10);
        x.due(4, "why", 0, 0);
    }

    static void promise9CeilingBeforeSight() {
        Run x = sentence(9, "the first of these that is so: 4: the ceiling is below its limit; 5: the sight is below its limit");
        x.does("card", 10, 51, 11, 3, 9, -1);
        x.due(4, "why", 0, 0);
        x.does("weather", 0, 10, 51, 10);
        x.due(5, "why", 0, 0);
    }

    static void promise9SightBeforeFlights() {
        Run x = sentence(9, "the first of these that is so: 5: ...; 6: with it there would be more flights than there can be");
        x.does("card", 10, 50, 11, 3, 9, -1);
        easyCards(x, 1);
        x.does("set", 1, 1);
        x.does("fly", 1, 2);
        x.due(5, "why", 0, 0);
        x.does("weather", 0, 10, 50, 11);
        x.due(6, "why", 0, 0);
    }

    static void promise9FlightsBeforePlanes() {
        Run x = sentence(9, "the first of these that is so: 6: with it there would be more flights than there can be; 7: more planes");
        easy(x, 1, 1, -1);
        easy(x, 2, 1, -1);
        x.does("set", 1, 1);
        x.does("fly", 0, 2);
        x.due(6, "why", 1, 0);
        x.does("set", 1, 2);
        x.due(7, "why", 1, 0);
        x.does("set", 0, 3);
        x.due(0, "why", 1, 0);
    }

    static void promise9PlanesBeforeHours() {
        Run x = sentence(9, "the first of these that is so: 7: more planes; 8: more hours");
        easy(x, 3, 9, -1);
        x.does("set", 2, 8);
        x.due(7, "why", 0, 0);
        x.does("set", 0, 3);
        x.due(8, "why", 0, 0);
        x.does("set", 2, 9);
        x.due(0, "why", 0, 0);
    }

    static void promise9MorePlanesAlready() {
        Run x = sentence(9, "(also if there are more already, and the card has no planes)");
        easy(x, 2, 1, -1);
        easy(x, 0, 9, -1);
        x.does("fly", 0, 2);
        x.due(0, "why", 1, 0);
        x.does("set", 0, 1);
        x.due(7, "why", 1, 0);
        x.does("set", 2, 9);
        x.due(7, "why", 1, 0);
        x.does("set", 0, 2);
        x.due(8, "why", 1, 0);
        x.does("set", 0, 0);
        x.does("set", 2, 10);
        x.due(7, "why", 1, 0);
        x.due(0, "why", 1, 1);
    }

    static void promise9MoreHoursAlready() {
        Run x = sentence(9, "8: more hours (also if there are more already ...)");
        easy(x, 0, 9, -1);
        easy(x, 0, 1, -1);
        x.does("fly", 0, 2);
        x.does("set", 2, 1);
        x.due(8, "why", 1, 0);
        x.due(8, "why", 1, 6);
        x.due(0, "why", 1, 7);
    }

    static void promise9WeatherJustAtTheLimits() {
        Run x = sentence(9, "3: the wind is above its limit; 4: the ceiling is below its limit; 5: the sight is below its limit");
        x.does("card", 0, 99, 99, 0, 1, -1);
        x.does("weather", 0, 0, 99, 99);
        x.does("weather", 1, 1, 99, 99);
        x.does("weather", 2, 0, 98, 99);
        x.does("weather", 3, 0, 99, 98);
        x.due(0, "why", 0, 0);
        x.due(3, "why", 0, 1);
        x.due(4, "why", 0, 2);
        x.due(5, "why", 0, 3);
    }

    static void promise9NothingOfALaterDayIsTaken() {
        Run x = sentence(9, "on a later day nothing of it is taken");
        easy(x, 2, 1, -1);
        x.does("fly", 0, 2);
        x.due(7, "why", 0, 0);
        x.due(0, "why", 0, 1);
        x.does("set", 1, 1);
        x.due(6, "why", 0, 0);
        x.due(0, "why", 0, 1);
        x.due(0, "why", 0, 28);
    }

    static void promise9WhatNoDayHas() {
        Run x = sentence(9, "on a later day nothing of it is taken, and of its week only what was taken so far");
        easy(x, 3, 1, -1);
        easy(x, 0, 9, -1);
        x.does("set", 2, 8);
        x.due(7, "why", 0, 99);
        x.due(8, "why", 1, 99);
        x.does("set", 0, 3);
        x.does("set", 2, 9);
        x.due(0, "why", 0, 99);
        x.due(0, "why", 1, 99);
    }

    static void promise9OfItsWeek() {
        Run x = sentence(9, "of its week only what was taken so far, if it is this week");
        easy(x, 0, 5, -1);
        easy(x, 0, 8, -1);
        easy(x, 0, 7, -1);
        x.does("fly", 0, 2);
        x.due(8, "why", 1, 0);
        x.due(8, "why", 1, 1);
        x.due(8, "why", 1, 6);
        x.due(0, "why", 1, 7);
        x.due(0, "why", 2, 6);
        x.does("pass", 6);
        x.due(8, "why", 1, 0);
        x.due(0, "why", 1, 1);
        x.does("pass", 1);
        x.due(0, "why", 1, 0);
        x.does("fly", 0, 2);
        x.due(8, "why", 1, 6);
        x.due(0, "why", 1, 7);
        x.due(0, "why", 1, 13);
    }

    static void promise9CardsAsTheyAreNow() {
        Run x = sentence(9, "cards are as they are now");
        chain(x, 2);
        x.due(2, "why", 1, 1);
        x.due(2, "why", 1, 99);
        x.does("fly", 0, 2);
        x.due(2, "why", 1, 99);
        x.does("fly", 0, 1);
        x.due(0, "why", 1, 99);
    }

    static void promise9WeatherBeyondTheLastDay() {
        Run x = sentence(9, "later: 0 to 99: in how many days (0: today)");
        x.does("card", 50, 0, 0, 0, 1, -1);
        passTo(x, 0, 999);
        // The day 999 is the day 19 modulo 28, the day 1098 the day 6.
        x.does("weather", 19, 51, 0, 0);
        x.does("weather", 6, 51, 0, 0);
        x.due(3, "why", 0, 0);
        x.due(0, "why", 0, 1);
        x.due(3, "why", 0, 15);
        x.due(0, "why", 0, 98);
        x.due(3, "why", 0, 99);
    }

    // ---- promise 10: cardOf

    static void promise10Card() {
        Run x = sentence(10, "INVALID_ARGUMENT if an argument is out of range (card: number of the card)");
        for (int what = 0; what <= 9; what++) {
            x.due(INVALID, "cardOf", 0, what);
        }
        easyCards(x, 12);
        x.refuses(0, 0, 11, "cardOf", 0, 0);
        x.due(99, "cardOf", 0, 0);
        x.due(99, "cardOf", 11, 0);
    }

    static void promise10What() {
        Run x = sentence(10, "what: 0: the greatest wind; ... 9: how many steps there are from it to a card without one ahead");
        easyCards(x, 1);
        x.refuses(1, 0, 9, "cardOf", 0, 0);
        x.due(99, "cardOf", 0, 0);
        x.due(0, "cardOf", 0, 9);
    }

    static void promise10RangeAheadOfMissing() {
        Run x = sentence(10, "INVALID_ARGUMENT is returned rather than ... NOT_FOUND");
        easyCards(x, 1);
        x.due(MISSING, "cardOf", 0, 5);
        x.refuses(0, 0, 0, "cardOf", 0, 5);
    }

    static void promise10Missing() {
        Run x = sentence(10, "NOT_FOUND for 5 if there is none");
        x.does("card", 0, 0, 0, 0, 1, -1);
        x.does("card", 0, 0, 0, 0, 1, 0);
        int[] without = {0, 0, 0, 0, 1, MISSING, 0, 0, 1, 0};
        int[] with = {0, 0, 0, 0, 1, 0, 0, 0, 0, 1};
        for (int what = 0; what <= 9; what++) {
            x.due(without[what], "cardOf", 0, what);
            x.due(with[what], "cardOf", 1, what);
        }
    }

    static void promise10EachLimit() {
        Run x = sentence(10, "0: the greatest wind; 1: the least ceiling; 2: the least sight; 3: planes; 4: hours");
        x.does("card", 11, 22, 33, 3, 9, -1);
        int[] limits = {11, 22, 33, 3, 9};
        for (int what = 0; what < limits.length; what++) {
            x.due(limits[what], "cardOf", 0, what);
        }
    }

    static void promise10EachState() {
        Run x = sentence(10, "6: its state");
        easyCards(x, 4);
        x.does("fly", 1, 1);
        x.does("fly", 2, 2);
        x.does("waive", 3);
        for (int card = 0; card <= 3; card++) {
            x.due(card, "cardOf", card, 6);
        }
    }

    static void promise10TimesFlown() {
        Run x = sentence(10, "7: how often it was flown");
        muchRoom(x);
        easyCards(x, 2);
        for (int flights = 1; flights <= 9; flights++) {
            x.does("fly", 0, 2);
            x.due(flights, "cardOf", 0, 7);
        }
        x.does("pass", 1);
        for (int flights = 10; flights <= 12; flights++) {
            x.does("fly", 0, flights == 12 ? 1 : 2);
            x.due(flights, "cardOf", 0, 7);
        }
        x.does("reopen", 0);
        x.due(12, "cardOf", 0, 7);
        x.due(0, "cardOf", 1, 7);
    }

    static void promise10Followers() {
        Run x = sentence(10, "8: how many cards have it ahead of them, by one or more steps");
        chain(x, 12);
        for (int card = 0; card <= 11; card++) {
            x.due(11 - card, "cardOf", card, 8);
        }
        Run y = another();
        easyCards(y, 2);
        int[] ahead = {0, 1, 0, 2, 5, 2};
        for (int before : ahead) {
            easy(y, 0, 1, before);
        }
        // 2 and 4 have 0 ahead of them, 3 has 1; 5 and 7 have 2, 6 has 5.
        int[] followers = {5, 1, 3, 0, 0, 1, 0, 0};
        for (int card = 0; card < followers.length; card++) {
            y.due(followers[card], "cardOf", card, 8);
        }
    }

    static void promise10FollowersWhateverTheirState() {
        Run x = sentence(10, "8: how many cards have it ahead of them, by one or more steps");
        muchRoom(x);
        chain(x, 5);
        x.does("waive", 0);
        x.does("fly", 1, 1);
        x.does("fly", 2, 2);
        x.does("waive", 3);
        x.due(4, "cardOf", 0, 8);
    }

    static void promise10Steps() {
        Run x = sentence(10, "9: how many steps there are from it to a card without one ahead");
        chain(x, 12);
        for (int card = 0; card <= 11; card++) {
            x.due(card, "cardOf", card, 9);
        }
        x.does("waive", 5);
        x.due(11, "cardOf", 11, 9);
        Run y = another();
        easyCards(y, 2);
        easy(y, 0, 1, 1);
        easy(y, 0, 1, 0);
        easy(y, 0, 1, 2);
        int[] steps = {0, 0, 1, 1, 2};
        for (int card = 0; card < steps.length; card++) {
            y.due(steps[card], "cardOf", card, 9);
        }
    }

    // ---- promise 11: flightOf

    static void promise11Index() {
        Run x = sentence(11, "INVALID_ARGUMENT if what is out of range or index is negative; NOT_FOUND if there are not so many");
        x.due(INVALID, "flightOf", -1, 0);
        x.due(INVALID, "flightOf", Integer.MIN_VALUE, 0);
        x.due(MISSING, "flightOf", 0, 0);
        x.due(MISSING, "flightOf", Integer.MAX_VALUE, 0);
        easyCards(x, 1);
        x.does("fly", 0, 1);
        x.due(INVALID, "flightOf", -1, 0);
        x.due(0, "flightOf", 0, 0);
        x.due(MISSING, "flightOf", 1, 0);
        x.due(MISSING, "flightOf", 9, 0);
        x.due(MISSING, "flightOf", 10, 0);
        x.due(MISSING, "flightOf", Integer.MAX_VALUE, 0);
    }

    static void promise11What() {
        Run x = sentence(11, "what: 0: the card; ... 4: how far the ceiling was above it then");
        x.refuses(1, 0, 4, "flightOf", 0, 0);
        x.refuses(1, 0, 4, "flightOf", 99, 0);
        x.due(INVALID, "flightOf", -1, 5);
        easyCards(x, 1);
        x.does("fly", 0, 2);
        x.refuses(1, 0, 4, "flightOf", 0, 0);
        x.refuses(1, 0, 4, "flightOf", 1, 0);
        int[] flight = {0, 0, 2, 89, 50};
        for (int what = 0; what <= 4; what++) {
            x.due(flight[what], "flightOf", 0, what);
        }
    }

    static void promise11LatestTen() {
        Run x = sentence(11, "The latest 10 flights are kept.");
        easyCards(x, 1);
        x.does("set", 1, 1);
        for (int day = 1; day <= 13; day++) {
            x.does("pass", 1);
            x.does("fly", 0, 2);
            int kept = Math.min(day, 10);
            x.due(day, "flightOf", 0, 1);
            x.due(day - kept + 1, "flightOf", kept - 1, 1);
            x.due(MISSING, "flightOf", kept, 1);
        }
        for (int index = 0; index <= 9; index++) {
            x.due(13 - index, "flightOf", index, 1);
        }
        x.due(13, "count", 5);
    }

    static void promise11FarMoreThanTen() {
        Run x = sentence(11, "The latest 10 flights are kept.");
        muchRoom(x);
        easyCards(x, 7);
        for (int flight = 0; flight < 31; flight++) {
            if (flight % 9 == 0) {
                x.does("pass", 7);
            }
            x.does("fly", flight % 7, 2);
        }
        for (int index = 0; index <= 9; index++) {
            x.due((30 - index) % 7, "flightOf", index, 0);
            x.due(((30 - index) / 9 + 1) * 7, "flightOf", index, 1);
        }
        x.due(MISSING, "flightOf", 10, 0);
    }

    static void promise11UndoneFlights() {
        Run x = sentence(11, "The latest 10 flights are kept. (each change records everything before it)");
        easyCards(x, 1);
        x.does("set", 1, 1);
        for (int day = 1; day <= 11; day++) {
            x.does("pass", 1);
            x.does("fly", 0, 2);
        }
        x.due(2, "flightOf", 9, 1);
        x.due(3, "undo");
        x.due(10, "flightOf", 0, 1);
        x.due(1, "flightOf", 9, 1);
        x.due(2, "undo");
        x.due(1, "undo");
        x.due(9, "flightOf", 0, 1);
        x.due(1, "flightOf", 8, 1);
        x.due(MISSING, "flightOf", 9, 1);
    }

    static void promise11HowFarThen() {
        Run x = sentence(11, "3: how far the wind was below the limit of the card then; 4: how far the ceiling was above it then");
        x.does("card", 10, 50, 10, 0, 1, -1);
        x.does("card", 99, 0, 0, 0, 1, -1);
        x.does("fly", 0, 2);
        x.does("weather", 0, 0, 99, 0);
        x.does("fly", 1, 2);
        x.does("weather", 0, 99, 0, 0);
        x.does("fly", 1, 2);
        x.does("weather", 0, 55, 55, 55);
        int[] wind = {0, 99, 0};
        int[] ceiling = {0, 99, 0};
        for (int index = 0; index <= 2; index++) {
            x.due(wind[index], "flightOf", index, 3);
            x.due(ceiling[index], "flightOf", index, 4);
        }
        x.does("pass", 1);
        x.due(99, "flightOf", 1, 3);
        x.due(99, "flightOf", 1, 4);
    }

    static void promise11OnALateDay() {
        Run x = sentence(11, "1: the day; 3: how far the wind was below the limit of the card then");
        x.does("card", 30, 20, 0, 0, 1, -1);
        passTo(x, 0, 999);
        x.does("weather", 19, 29, 22, 0);
        x.does("fly", 0, 1);
        int[] flight = {0, 999, 1, 1, 2};
        for (int what = 0; what <= 4; what++) {
            x.due(flight[what], "flightOf", 0, what);
        }
    }

    // ---- promise 12: weatherOf

    static void promise12Day() {
        Run x = sentence(12, "day: 0 to 27");
        x.does("weather", 0, 1, 1, 1);
        x.does("weather", 27, 2, 2, 2);
        for (int what = 0; what <= 3; what++) {
            x.refuses(0, 0, 27, "weatherOf", 0, what);
        }
        x.due(1, "weatherOf", 0, 0);
        x.due(2, "weatherOf", 27, 0);
    }

    static void promise12What() {
        Run x = sentence(12, "what: 0: wind; 1: ceiling; 2: sight; 3: the cards with limits that it keeps to, as a set");
        x.does("weather", 9, 1, 2, 3);
        x.refuses(1, 0, 3, "weatherOf", 9, 0);
        for (int what = 0; what <= 2; what++) {
            x.due(1 + what, "weatherOf", 9, what);
        }
        x.due(0, "weatherOf", 9, 3);
    }

    static void promise12Set() {
        Run x = sentence(12, "Sets of cards are told as bits: bit k is for the card k.");
        for (int card = 0; card <= 11; card++) {
            x.does("card", 40 + card, 60 - card, 70 - card, 0, 1, -1);
        }
        x.does("weather", 1, 51, 49, 59);
        x.does("weather", 2, 45, 0, 99);
        x.does("weather", 3, 45, 99, 99);
        x.does("weather", 4, 0, 52, 99);
        x.does("weather", 5, 0, 99, 69);
        x.does("weather", 6, 40, 60, 70);
        x.does("weather", 7, 52, 99, 99);
        int[] sets = {0, 2048, 0, 4095 - 31, 4095 - 255, 4095 - 1, 4095, 0};
        for (int day = 1; day <= 7; day++) {
            x.due(sets[day], "weatherOf", day, 3);
        }
    }

    static void promise12WhateverTheirState() {
        Run x = sentence(12, "3: the cards with limits that it keeps to");
        muchRoom(x);
        easyCards(x, 4);
        easy(x, 3, 9, 0);
        x.does("fly", 1, 1);
        x.does("fly", 2, 2);
        x.does("waive", 3);
        x.due(31, "weatherOf", 0, 3);
        x.due(31, "weatherOf", 27, 3);
    }

    // ---- promise 13: cards

    static void promise13What() {
        Run x = sentence(13, "what: 0 to 3: those in this state; 4: those that can be flown today");
        x.refuses(0, 0, 4, "cards", 0);
        easyCards(x, 1);
        x.refuses(0, 0, 4, "cards", 0);
        dueAll(x, "cards", 1, 0, 0, 0, 1);
    }

    static void promise13EachState() {
        Run x = sentence(13, "0 to 3: those in this state");
        muchRoom(x);
        easyCards(x, 12);
        x.due(4095, "cards", 0);
        x.due(4095, "cards", 4);
        for (int card = 0; card <= 11; card++) {
            if (card % 4 == 3) {
                x.does("waive", card);
            } else if (card % 4 != 0) {
                x.does("fly", card, card % 4);
            }
        }
        dueAll(x, "cards", 0x111, 0x222, 0x444, 0x888, 0x555);
        x.does("set", 1, 6);
        x.due(0, "cards", 4);
    }

    static void promise13FlyableToday() {
        Run x = sentence(13, "4: those that can be flown today");
        easyCards(x, 2);
        easy(x, 0, 1, 0);
        x.does("card", 9, 0, 0, 0, 1, -1);
        x.does("card", 99, 51, 0, 0, 1, -1);
        x.does("card", 99, 0, 11, 0, 1, -1);
        easy(x, 3, 1, -1);
        easy(x, 2, 9, -1);
        x.due(1 + 2 + 128, "cards", 4);
        x.does("set", 2, 8);
        x.due(1 + 2, "cards", 4);
        x.does("waive", 0);
        x.due(2 + 4, "cards", 4);
        x.does("fly", 1, 2);
        x.due(2 + 4, "cards", 4);
        x.does("set", 1, 1);
        x.due(0, "cards", 4);
        x.does("weather", 1, 9, 51, 11);
        x.does("pass", 1);
        x.due(2 + 4 + 8 + 16 + 32, "cards", 4);
    }

    static void promise13OnlyCardsThatThereAre() {
        Run x = sentence(13, "4: those that can be flown today");
        x.does("weather", 0, 0, 99, 99);
        dueAll(x, "cards", 0, 0, 0, 0, 0);
        easyCards(x, 1);
        x.does("waive", 0);
        dueAll(x, "cards", 0, 0, 0, 1, 0);
        x.due(1, "weatherOf", 0, 3);
    }
}
