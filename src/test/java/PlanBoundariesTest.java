/** The boundary sentences of the promises 14 to 17: the first day for a card, the plan, the worst limit. */
public final class PlanBoundariesTest extends Boundaries {
    public static void main(String[] args) {
        runAll(PlanBoundariesTest.class);
    }

    /** Makes the weather too windy for limits below 99 but on one day of the 28. */
    private static void windyBut(Run x, int day) {
        for (int other = 0; other <= 27; other++) {
            x.does("weather", other, other == day ? 0 : 99, 99, 99);
        }
    }

    // ---- promise 14: first

    static void promise14Card() {
        Run x = sentence(14, "card: number of the card; INVALID_ARGUMENT");
        x.due(INVALID, "first", 0);
        easyCards(x, 12);
        x.refuses(0, 0, 11, "first", 0);
        x.due(0, "first", 0);
        x.due(0, "first", 11);
    }

    static void promise14Today() {
        Run x = sentence(14, "Returns in how many days, 0 to 99 (as why() tells it)");
        x.does("card", 10, 50, 10, 2, 9, -1);
        x.due(0, "first", 0);
        x.does("weather", 0, 11, 50, 10);
        x.due(1, "first", 0);
        x.does("weather", 1, 10, 49, 10);
        x.due(2, "first", 0);
        x.does("weather", 2, 10, 50, 9);
        x.due(3, "first", 0);
        x.does("pass", 2);
        x.due(1, "first", 0);
    }

    static void promise14LastOfTheFourWeeks() {
        Run x = sentence(14, "Finds the first day on which a card could be flown");
        x.does("card", 50, 0, 0, 0, 1, -1);
        windyBut(x, 27);
        x.due(27, "first", 0);
        x.does("pass", 27);
        x.due(0, "first", 0);
        x.does("pass", 1);
        x.due(27, "first", 0);
    }

    static void promise14FourWeeksFromToday() {
        Run x = sentence(14, "Finds the first day on which a card could be flown");
        x.does("card", 50, 0, 0, 0, 1, -1);
        easyCards(x, 1);
        windyBut(x, 0);
        x.does("set", 1, 1);
        x.does("fly", 1, 2);
        x.due(28, "first", 0);
    }

    static void promise14FurthestDay() {
        Run x = sentence(14, "Finds the first day on which a card could be flown");
        x.does("card", 50, 0, 0, 0, 5, -1);
        easy(x, 0, 8, -1);
        windyBut(x, 6);
        x.does("fly", 1, 2);
        x.due(34, "first", 0);
        x.does("set", 2, 13);
        x.due(6, "first", 0);
    }

    static void promise14None() {
        Run x = sentence(14, "NOT_FOUND if there is none");
        chain(x, 2);
        easyCards(x, 2);
        easy(x, 3, 1, -1);
        easy(x, 0, 9, -1);
        x.does("card", 9, 0, 0, 0, 1, -1);
        x.does("card", 99, 51, 0, 0, 1, -1);
        x.does("card", 99, 0, 11, 0, 1, -1);
        x.does("fly", 2, 1);
        x.does("waive", 3);
        x.does("set", 2, 8);
        x.due(0, "first", 0);
        for (int card = 1; card <= 8; card++) {
            x.due(MISSING, "first", card);
        }
        x.does("set", 0, 3);
        x.due(0, "first", 4);
        x.does("set", 2, 9);
        x.due(7, "first", 5);
    }

    static void promise14CardsAsTheyAreNow() {
        Run x = sentence(14, "with cards as they are now");
        chain(x, 3);
        x.due(MISSING, "first", 1);
        x.does("fly", 0, 2);
        x.due(MISSING, "first", 1);
        x.does("fly", 0, 1);
        x.due(0, "first", 1);
        x.due(MISSING, "first", 2);
    }

    static void promise14NextDayAndNextWeek() {
        Run x = sentence(14, "Returns in how many days, 0 to 99 (as why() tells it)");
        easy(x, 2, 6, -1);
        easy(x, 1, 6, -1);
        easy(x, 0, 7, -1);
        x.does("pass", 5);
        x.does("fly", 0, 2);
        x.due(1, "first", 1);
        x.due(2, "first", 2);
        x.does("pass", 1);
        x.due(0, "first", 1);
        x.due(1, "first", 2);
    }

    static void promise14BeyondTheLastDay() {
        Run x = sentence(14, "Returns in how many days, 0 to 99 (as why() tells it)");
        x.does("card", 50, 0, 0, 0, 1, -1);
        // The day 999 is the day 19 modulo 28.
        windyBut(x, 18);
        passTo(x, 0, 999);
        x.due(27, "first", 0);
    }

    // ---- promise 15: planned

    static void promise15Place() {
        Run x = sentence(15, "INVALID_ARGUMENT if what is out of range or place is negative; NOT_FOUND if there are not so many");
        x.due(INVALID, "planned", -1, 0);
        x.due(INVALID, "planned", Integer.MIN_VALUE, 1);
        x.due(MISSING, "planned", 0, 0);
        x.due(MISSING, "planned", Integer.MAX_VALUE, 1);
        easyCards(x, 2);
        x.due(INVALID, "planned", -1, 0);
        x.due(0, "planned", 0, 0);
        x.due(1, "planned", 1, 0);
        x.due(MISSING, "planned", 2, 0);
        x.due(MISSING, "planned", 2, 1);
        x.due(MISSING, "planned", 12, 0);
        x.due(MISSING, "planned", Integer.MAX_VALUE, 0);
    }

    static void promise15What() {
        Run x = sentence(15, "what: 0: the card; 1: in how many days");
        x.refuses(1, 0, 1, "planned", 0, 0);
        easyCards(x, 1);
        x.refuses(1, 0, 1, "planned", 0, 0);
        x.refuses(1, 0, 1, "planned", 1, 0);
        x.does("pass", 9);
        x.due(0, "planned", 0, 0);
        x.due(0, "planned", 0, 1);
    }

    static void promise15TwelveFlights() {
        Run x = sentence(15, "place: 0 for the first one, and so on");
        chain(x, 12);
        for (int place = 0; place <= 11; place++) {
            x.due(place, "planned", place, 0);
            x.due(place / 3, "planned", place, 1);
        }
        x.due(MISSING, "planned", 12, 0);
    }

    static void promise15LowestAgainAndAgain() {
        Run x = sentence(15, "the lowest card that can be flown is flown well, again and again, until none can be flown on that day any more; then the next day comes");
        easy(x, 1, 1, -1);
        easy(x, 2, 1, -1);
        easy(x, 1, 1, 1);
        easy(x, 1, 1, -1);
        easy(x, 0, 1, 0);
        int[] cards = {0, 3, 4, 1, 2};
        int[] days = {0, 0, 0, 1, 2};
        for (int place = 0; place < cards.length; place++) {
            x.due(cards[place], "planned", place, 0);
            x.due(days[place], "planned", place, 1);
        }
        x.due(MISSING, "planned", cards.length, 0);
    }

    static void promise15TodayAndWeekTaken() {
        Run x = sentence(15, "from today on, with what has been taken of today and this week already");
        easy(x, 1, 2, -1);
        easy(x, 2, 2, -1);
        easy(x, 0, 9, -1);
        easy(x, 0, 1, -1);
        x.does("pass", 4);
        x.does("fly", 0, 2);
        // Today there is one plane left, and of the week there are ten hours left.
        int[] cards = {0, 3, 1, 2};
        int[] days = {0, 0, 1, 3};
        for (int place = 0; place < cards.length; place++) {
            x.due(cards[place], "planned", place, 0);
            x.due(days[place], "planned", place, 1);
        }
    }

    static void promise15FlightsOfTodayTaken() {
        Run x = sentence(15, "from today on, with what has been taken of today and this week already");
        easyCards(x, 4);
        x.does("fly", 3, 2);
        x.does("fly", 3, 1);
        int[] days = {0, 1, 1};
        for (int place = 0; place < days.length; place++) {
            x.due(place, "planned", place, 0);
            x.due(days[place], "planned", place, 1);
        }
        x.due(MISSING, "planned", 3, 0);
    }

    static void promise15WaivedAndAgain() {
        Run x = sentence(15, "It ends when all cards are flown well or waived");
        chain(x, 3);
        x.does("fly", 0, 2);
        x.does("waive", 1);
        x.due(0, "planned", 0, 0);
        x.due(2, "planned", 1, 0);
        x.due(MISSING, "planned", 2, 0);
    }

    // ---- promise 16: plan

    static void promise16What() {
        Run x = sentence(16, "INVALID_ARGUMENT if what is out of range");
        x.refuses(0, 0, 5, "plan", 0);
        easyCards(x, 2);
        x.refuses(0, 0, 5, "plan", 0);
        dueAll(x, "plan", 1, 2, 0, 2, 2, 0);
    }

    static void promise16NoFlight() {
        Run x = sentence(16, "NOT_FOUND for 2 if it has no flight");
        dueAll(x, "plan", 1, 0, MISSING, 0, 0, 0);
        easy(x, 3, 9, -1);
        dueAll(x, "plan", 0, 0, MISSING, 0, 0, 1);
        x.does("waive", 0);
        dueAll(x, "plan", 1, 0, MISSING, 0, 0, 0);
        easyCards(x, 1);
        dueAll(x, "plan", 1, 1, 0, 1, 1, 0);
        x.does("fly", 1, 1);
        dueAll(x, "plan", 1, 0, MISSING, 0, 0, 0);
    }

    static void promise16HundredthDay() {
        Run x = sentence(16, "It ends ... behind 100 days (today and 99 more).");
        for (int card = 0; card < 5; card++) {
            x.does("card", 50, 0, 0, 0, 1, -1);
        }
        x.does("set", 1, 1);
        windyBut(x, 15);
        // The days 15, 43, 71 and 99 are within the 100 days.
        dueAll(x, "plan", 0, 4, 99, 4, 1, 16);
        x.due(99, "planned", 3, 1);
        x.does("waive", 4);
        dueAll(x, "plan", 1, 4, 99, 4, 1, 0);
    }

    static void promise16BehindTheHundredthDay() {
        Run x = sentence(16, "It ends ... behind 100 days (today and 99 more).");
        for (int card = 0; card < 4; card++) {
            x.does("card", 50, 0, 0, 0, 1, -1);
        }
        x.does("set", 1, 1);
        windyBut(x, 16);
        // The days 16, 44 and 72 are within the 100 days, the day 100 is not.
        dueAll(x, "plan", 0, 3, 72, 3, 1, 8);
        x.due(MISSING, "planned", 3, 0);
        x.does("pass", 1);
        dueAll(x, "plan", 1, 4, 99, 4, 1, 0);
    }

    static void promise16HundredDaysFromALateDay() {
        Run x = sentence(16, "It ends ... behind 100 days (today and 99 more).");
        for (int card = 0; card < 5; card++) {
            x.does("card", 50, 0, 0, 0, 1, -1);
        }
        x.does("set", 1, 1);
        passTo(x, 0, 999);
        // The day 999 is the day 19 modulo 28, the day 1098 the day 6.
        windyBut(x, 6);
        dueAll(x, "plan", 0, 4, 99, 4, 1, 16);
        windyBut(x, 7);
        dueAll(x, "plan", 0, 3, 72, 3, 1, 24);
    }

    static void promise16Last() {
        Run x = sentence(16, "2: in how many days the last one is");
        x.does("set", 1, 1);
        x.does("set", 2, 1);
        x.does("pass", 3);
        chain(x, 12);
        // One today, and one on the first day of each week behind this one.
        dueAll(x, "plan", 1, 12, 4 + 10 * 7, 12, 1, 0);
        x.does("fly", 0, 1);
        dueAll(x, "plan", 1, 11, 4 + 10 * 7, 11, 1, 0);
    }

    static void promise16Hours() {
        Run x = sentence(16, "3: hours that it takes");
        for (int card = 0; card < 12; card++) {
            easy(x, 0, 9, -1);
        }
        x.does("fly", 0, 2);
        // One a week from the next one on: the last in 84 days.
        dueAll(x, "plan", 1, 12, 84, 108, 1, 0);
    }

    static void promise16MostOnOneDay() {
        Run x = sentence(16, "4: the most flights of it on one day");
        x.does("set", 1, 9);
        for (int card = 0; card < 3; card++) {
            x.does("card", 10, 0, 0, 0, 1, -1);
        }
        for (int card = 0; card < 9; card++) {
            x.does("card", 9, 0, 0, 0, 1, -1);
        }
        x.due(3, "plan", 4);
        x.does("weather", 3, 9, 0, 0);
        dueAll(x, "plan", 1, 12, 3, 12, 9, 0);
        x.does("weather", 0, 9, 0, 0);
        x.does("set", 1, 7);
        dueAll(x, "plan", 1, 12, 3, 12, 7, 0);
    }

    static void promise16FlightsOfTodayAreNotOfThePlan() {
        Run x = sentence(16, "4: the most flights of it on one day");
        easyCards(x, 3);
        x.does("fly", 0, 1);
        x.does("fly", 1, 1);
        dueAll(x, "plan", 1, 1, 0, 1, 1, 0);
        x.does("fly", 2, 2);
        dueAll(x, "plan", 1, 1, 1, 1, 1, 0);
    }

    static void promise16Left() {
        Run x = sentence(16, "0: 1 if all cards are flown well or waived by it, otherwise 0; 5: the cards that are left, as a set");
        for (int card = 0; card <= 11; card++) {
            easy(x, card % 4 == 3 ? 3 : 0, 1, -1);
        }
        dueAll(x, "plan", 0, 9, 2, 9, 3, 0x888);
        x.does("waive", 3);
        x.does("waive", 7);
        dueAll(x, "plan", 0, 9, 2, 9, 3, 0x800);
        x.does("waive", 11);
        dueAll(x, "plan", 1, 9, 2, 9, 3, 0);
    }

    static void promise16OnlyCardsThatThereAre() {
        Run x = sentence(16, "The plan tells how all cards could be flown");
        x.does("weather", 0, 0, 99, 99);
        easyCards(x, 1);
        easy(x, 3, 1, -1);
        x.does("fly", 0, 1);
        dueAll(x, "plan", 0, 0, MISSING, 0, 0, 2);
        x.due(MISSING, "planned", 0, 0);
    }

    static void promise16LeftBehindALeftOne() {
        Run x = sentence(16, "5: the cards that are left, as a set");
        easy(x, 3, 1, -1);
        easy(x, 0, 1, 0);
        easy(x, 0, 1, 1);
        easy(x, 0, 1, -1);
        dueAll(x, "plan", 0, 1, 0, 1, 1, 7);
        x.does("waive", 1);
        dueAll(x, "plan", 0, 2, 0, 2, 2, 1);
    }

    static void promise16ChangesNothing() {
        Run x = sentence(16, "The plan tells how all cards could be flown");
        chain(x, 2);
        x.due(2, "plan", 1);
        dueAll(x, "cards", 3, 0, 0, 0, 1);
        x.due(0, "count", 5);
        x.due(1, "fly", 0, 2);
        x.due(2, "plan", 1);
        dueAll(x, "cards", 2, 0, 1, 0, 1);
    }

    // ---- promise 17: worst

    static void promise17What() {
        Run x = sentence(17, "INVALID_ARGUMENT if what is out of range");
        x.refuses(0, 0, 1, "worst", 0);
        easy(x, 3, 1, -1);
        x.refuses(0, 0, 1, "worst", 0);
        dueAll(x, "worst", 7, 28);
    }

    static void promise17None() {
        Run x = sentence(17, "NOT_FOUND if none is ever in the way");
        dueAll(x, "worst", MISSING, MISSING);
        chain(x, 2);
        dueAll(x, "worst", MISSING, MISSING);
        x.does("card", 9, 0, 0, 0, 1, 0);
        dueAll(x, "worst", MISSING, MISSING);
        x.does("waive", 0);
        dueAll(x, "worst", 3, 28);
        x.does("weather", 5, 9, 0, 0);
        dueAll(x, "worst", 3, 27);
    }

    static void promise17TwentyEightDays() {
        Run x = sentence(17, "the 28 days from today on");
        x.does("card", 50, 0, 0, 0, 1, -1);
        x.does("weather", 0, 51, 0, 0);
        dueAll(x, "worst", 3, 1);
        x.does("pass", 1);
        dueAll(x, "worst", 3, 1);
        x.does("pass", 26);
        dueAll(x, "worst", 3, 1);
        x.does("pass", 1);
        dueAll(x, "worst", 3, 1);
    }

    static void promise17DaysOfThisWeek() {
        Run x = sentence(17, "the 28 days from today on, as why() tells them");
        easy(x, 0, 7, -1);
        x.does("fly", 0, 2);
        dueAll(x, "worst", 8, 7);
        x.does("pass", 5);
        dueAll(x, "worst", 8, 2);
        x.does("pass", 1);
        dueAll(x, "worst", 8, 1);
        x.does("pass", 1);
        dueAll(x, "worst", MISSING, MISSING);
    }

    static void promise17StatesZeroAndTwo() {
        Run x = sentence(17, "counted over all cards of the state 0 or 2");
        x.does("set", 1, 9);
        for (int card = 0; card < 4; card++) {
            easy(x, 2, 1, -1);
        }
        x.does("fly", 1, 1);
        x.does("pass", 1);
        x.does("fly", 2, 2);
        x.does("waive", 3);
        x.does("set", 0, 1);
        dueAll(x, "worst", 7, 2 * 28);
        x.does("reopen", 1);
        dueAll(x, "worst", 7, 3 * 28);
        x.does("reopen", 3);
        dueAll(x, "worst", 7, 4 * 28);
    }

    static void promise17AllCards() {
        Run x = sentence(17, "counted over all cards of the state 0 or 2 and the 28 days from today on");
        for (int card = 0; card < 12; card++) {
            x.does("card", 9, 0, 0, 0, 1, -1);
        }
        dueAll(x, "worst", 3, 12 * 28);
    }

    static void promise17LowestOfTwo() {
        Run x = sentence(17, "0: the reason, of several the lowest");
        x.does("card", 99, 51, 0, 0, 1, -1);
        x.does("card", 9, 0, 0, 0, 1, -1);
        dueAll(x, "worst", 3, 28);
        x = another();
        x.does("card", 99, 0, 11, 0, 1, -1);
        x.does("card", 99, 51, 0, 0, 1, -1);
        dueAll(x, "worst", 4, 28);
        x = another();
        easy(x, 3, 1, -1);
        x.does("card", 99, 0, 11, 0, 1, -1);
        dueAll(x, "worst", 5, 28);
        x = another();
        x.does("set", 2, 8);
        easy(x, 0, 9, -1);
        easy(x, 3, 1, -1);
        dueAll(x, "worst", 7, 28);
    }

    static void promise17LowestOfTwoWithFlights() {
        Run x = sentence(17, "0: the reason, of several the lowest");
        x.does("set", 1, 1);
        x.does("set", 2, 1);
        x.does("pass", 5);
        easyCards(x, 1);
        x.does("fly", 0, 2);
        // Today there are too many flights, and tomorrow too many hours.
        dueAll(x, "worst", 6, 1);
        x.does("card", 99, 0, 10, 0, 1, -1);
        x.does("weather", 20, 10, 50, 9);
        dueAll(x, "worst", 6, 2);
        x.does("waive", 0);
        // Once the flights, once the hours, once the sight.
        dueAll(x, "worst", 5, 1);
    }

    static void promise17MoreOftenThanALowerOne() {
        Run x = sentence(17, "Finds the reason (3 to 8) that is in the way most often");
        x.does("set", 2, 8);
        easy(x, 0, 9, -1);
        x.does("card", 9, 0, 0, 0, 1, -1);
        x.does("weather", 9, 9, 0, 0);
        dueAll(x, "worst", 8, 28);
        x.does("weather", 9, 10, 0, 0);
        dueAll(x, "worst", 3, 28);
        easy(x, 0, 9, -1);
        dueAll(x, "worst", 8, 56);
    }

    static void promise17ReasonsOneAndTwoDoNotCount() {
        Run x = sentence(17, "Finds the reason (3 to 8) that is in the way most often");
        chain(x, 3);
        easyCards(x, 2);
        x.does("fly", 3, 1);
        x.does("waive", 4);
        dueAll(x, "worst", MISSING, MISSING);
        x.does("weather", 11, 99, 0, 0);
        x.does("card", 98, 0, 0, 0, 1, -1);
        dueAll(x, "worst", 3, 1);
    }
}
