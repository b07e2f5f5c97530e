/** Cards of test flights, with limits, weather by days, a plan, a history and orders as texts. */
public final class SortieCards {
    public static final int INVALID_ARGUMENT = -1000001;
    public static final int NOT_POSSIBLE = -1000002;
    public static final int LIMIT_REACHED = -1000003;
    public static final int NOT_FOUND = -1000004;

    private static final int MOST_CARDS = 12;
    private static final int MOST_FLIGHTS_KEPT = 10;
    private static final int MOST_STATES_KEPT = 4;
    private static final int MOST_CHARACTERS = 60;
    private static final int WEATHER_DAYS = 28;
    private static final int DAYS_AHEAD = 100;
    private static final int DAYS_OF_A_WEEK = 7;
    private static final int LAST_DAY = 999;
    private static final int GREATEST_NUMBER = 99;
    private static final int NONE = -1;

    // The columns of the tables are numbered as cardOf, weatherOf and flightOf tell them.
    private static final int WIND = 0;
    private static final int CEILING = 1;
    private static final int SIGHT = 2;
    private static final int PLANES = 3;
    private static final int HOURS = 4;
    private static final int BEFORE = 5;
    private static final int STATE = 6;
    private static final int TIMES_FLOWN = 7;
    private static final int CARD_COLUMNS = 8;
    private static final int WEATHER_COLUMNS = 3;

    private static final int FLIGHT_CARD = 0;
    private static final int FLIGHT_DAY = 1;
    private static final int FLIGHT_RESULT = 2;
    private static final int FLIGHT_WIND_LEFT = 3;
    private static final int FLIGHT_CEILING_LEFT = 4;
    private static final int FLIGHT_COLUMNS = 5;

    private static final int PLANES_OF_A_DAY = 0;
    private static final int FLIGHTS_OF_A_DAY = 1;
    private static final int HOURS_OF_A_WEEK = 2;
    private static final int SETTING_COLUMNS = 3;

    private static final int OPEN = 0;
    private static final int WELL = 1;
    private static final int AGAIN = 2;
    private static final int WAIVED = 3;

    private static final int FLYABLE = 0;
    private static final int DONE_ALREADY = 1;
    private static final int ONE_AHEAD_IS_MISSING = 2;
    private static final int TOO_MUCH_WIND = 3;
    private static final int TOO_LOW_CEILING = 4;
    private static final int TOO_LITTLE_SIGHT = 5;
    private static final int TOO_MANY_FLIGHTS = 6;
    private static final int TOO_MANY_PLANES = 7;
    private static final int TOO_MANY_HOURS = 8;
    private static final int REASONS = 9;

    private static final int NO_FAULT = 0;
    private static final int FAULT_OF_FORM = 1;
    private static final int FAULT_OF_CALL = 2;

    private final Book now = new Book();
    /** A copy of now on which a call is tried before it counts. */
    private final Book trial = new Book();
    private final History history = new History();
    private final Text text = new Text();
    private final Playing playing = new Playing();
    private final Plan plan = new Plan();
    private final Table tally = new Table(1, REASONS);

    public SortieCards() {
    }

    // ---- cards, weather

    public int card(int wind, int ceiling, int sight, int planes, int hours, int before) {
        trial.copyFrom(now);
        return settle(trial.addCard(wind, ceiling, sight, planes, hours, before));
    }

    public int weather(int day, int wind, int ceiling, int sight) {
        trial.copyFrom(now);
        return settle(trial.tellWeather(day, wind, ceiling, sight));
    }

    // ---- flights

    public int fly(int card, int result) {
        trial.copyFrom(now);
        return settle(trial.flyCard(card, result));
    }

    public int waive(int card) {
        trial.copyFrom(now);
        return settle(trial.waiveCard(card));
    }

    public int reopen(int card) {
        trial.copyFrom(now);
        return settle(trial.reopenCard(card));
    }

    public int pass(int days) {
        trial.copyFrom(now);
        return settle(trial.passDays(days));
    }

    public int set(int what, int value) {
        trial.copyFrom(now);
        return settle(trial.changeSetting(what, value));
    }

    // ---- what there is

    public int why(int card, int later) {
        if (!now.hasCard(card) || !within(later, 0, DAYS_AHEAD - 1)) {
            return INVALID_ARGUMENT;
        }
        return now.reasonAgainst(card, later);
    }

    public int cardOf(int card, int what) {
        if (!now.hasCard(card) || !within(what, 0, 9)) {
            return INVALID_ARGUMENT;
        }
        if (what == 8) {
            return Integer.bitCount(now.followersOf(card));
        }
        if (what == 9) {
            return now.stepsAheadOf(card);
        }
        int value = now.cards.get(card, what);
        return what == BEFORE && value == NONE ? NOT_FOUND : value;
    }

    public int flightOf(int index, int what) {
        if (index < 0 || !within(what, 0, FLIGHT_COLUMNS - 1)) {
            return INVALID_ARGUMENT;
        }
        if (index >= now.flightsKept()) {
            return NOT_FOUND;
        }
        return now.flights.get(now.rowOfFlight(index), what);
    }

    public int weatherOf(int day, int what) {
        if (!within(day, 0, WEATHER_DAYS - 1) || !within(what, 0, WEATHER_COLUMNS)) {
            return INVALID_ARGUMENT;
        }
        return what == WEATHER_COLUMNS ? now.cardsForWeather(day) : now.weather.get(day, what);
    }

    public int cards(int what) {
        if (!within(what, OPEN, WAIVED + 1)) {
            return INVALID_ARGUMENT;
        }
        return what <= WAIVED ? now.cardsInState(what) : now.cardsForToday();
    }

    // ---- what would be

    public int first(int card) {
        if (!now.hasCard(card)) {
            return INVALID_ARGUMENT;
        }
        for (int later = 0; later < DAYS_AHEAD; later++) {
            if (now.reasonAgainst(card, later) == FLYABLE) {
                return later;
            }
        }
        return NOT_FOUND;
    }

    public int planned(int place, int what) {
        if (place < 0 || !within(what, 0, Plan.COLUMNS - 1)) {
            return INVALID_ARGUMENT;
        }
        trial.copyFrom(now);
        plan.makeOn(trial);
        return place < plan.length ? plan.flights.get(place, what) : NOT_FOUND;
    }

    public int plan(int what) {
        if (!within(what, 0, 5)) {
            return INVALID_ARGUMENT;
        }
        trial.copyFrom(now);
        plan.makeOn(trial);
        switch (what) {
            case 0:
                return trial.cardsLeft() == 0 ? 1 : 0;
            case 1:
                return plan.length;
            case 2:
                return plan.length == 0 ? NOT_FOUND : plan.flights.get(plan.length - 1, Plan.LATER);
            case 3:
                return plan.hours;
            case 4:
                return plan.mostOfADay;
            default:
                return trial.cardsLeft();
        }
    }

    public int worst(int what) {
        if (!within(what, 0, 1)) {
            return INVALID_ARGUMENT;
        }
        countReasons();
        int worst = TOO_MUCH_WIND;
        for (int reason = TOO_MUCH_WIND; reason <= TOO_MANY_HOURS; reason++) {
            if (tally.get(0, reason) > tally.get(0, worst)) {
                worst = reason;
            }
        }
        int often = tally.get(0, worst);
        if (often == 0) {
            return NOT_FOUND;
        }
        return what == 0 ? worst : often;
    }

    public int count(int what) {
        switch (what) {
            case 0:
                return now.cardCount;
            case 1:
                return now.today;
            case 2:
                return now.flightsToday;
            case 3:
                return now.planesToday;
            case 4:
                return now.hoursThisWeek;
            case 5:
                return now.flightsSoFar;
            case 6:
                return now.badFlightsSoFar;
            case 7:
                return now.hoursSoFar;
            case 8:
                return history.length;
            case 9:
                return text.length;
            case 20:
            case 21:
            case 22:
                return now.settings.get(0, what - 20);
            default:
                return INVALID_ARGUMENT;
        }
    }

    public int undo() {
        if (history.length == 0) {
            return NOT_POSSIBLE;
        }
        history.restoreTo(now);
        return history.length;
    }

    // ---- texts

    public int type(int character) {
        if (!within(character, 32, 126)) {
            return INVALID_ARGUMENT;
        }
        if (text.length >= MOST_CHARACTERS) {
            return LIMIT_REACHED;
        }
        text.append(character);
        return text.length;
    }

    public int clearText() {
        int length = text.length;
        text.length = 0;
        return length;
    }

    public int fault(int what) {
        if (!within(what, 0, 2)) {
            return INVALID_ARGUMENT;
        }
        trial.copyFrom(now);
        playing.playOn(text, trial);
        if (playing.reason == NO_FAULT) {
            return NOT_FOUND;
        }
        switch (what) {
            case 0:
                return playing.position;
            case 1:
                return playing.reason;
            default:
                return playing.cause;
        }
    }

    public int play() {
        trial.copyFrom(now);
        playing.playOn(text, trial);
        return settle(playing.reason == NO_FAULT ? playing.ordersDone : NOT_POSSIBLE);
    }

    /** Makes what was tried count, unless it answered an error: errors are the negative answers. */
    private int settle(int answer) {
        if (answer >= 0) {
            history.record(now);
            now.copyFrom(trial);
        }
        return answer;
    }

    private void countReasons() {
        tally.clear();
        int left = now.cardsLeft();
        for (int card = 0; card < now.cardCount; card++) {
            if ((left >> card & 1) == 0) {
                continue;
            }
            for (int later = 0; later < WEATHER_DAYS; later++) {
                int reason = now.reasonAgainst(card, later);
                tally.put(0, reason, tally.get(0, reason) + 1);
            }
        }
    }

    private static boolean within(int value, int lowest, int highest) {
        return value >= lowest && value <= highest;
    }

    /** Numbers in rows and columns; a place outside of it reads as 0 and keeps nothing. */
    private static final class Table {
        private final int[] cells;
        private final int columns;

        Table(int rows, int columns) {
            this.cells = new int[Math.max(0, rows * columns)];
            this.columns = columns;
        }

        int get(int row, int column) {
            int cell = row * columns + column;
            boolean inside = column >= 0 && column < columns && cell >= 0 && cell < cells.length;
            return inside ? cells[cell] : 0;
        }

        void put(int row, int column, int value) {
            int cell = row * columns + column;
            if (column >= 0 && column < columns && cell >= 0 && cell < cells.length) {
                cells[cell] = value;
            }
        }

        void clear() {
            for (int cell = 0; cell < cells.length; cell++) {
                cells[cell] = 0;
            }
        }

        void copyFrom(Table other) {
            System.arraycopy(other.cells, 0, cells, 0, Math.min(other.cells.length, cells.length));
        }
    }

    /** All that a change can alter and that undo brings back. */
    private static final class Book {
        private final Table cards = new Table(MOST_CARDS, CARD_COLUMNS);
        private final Table weather = new Table(WEATHER_DAYS, WEATHER_COLUMNS);
        private final Table flights = new Table(MOST_FLIGHTS_KEPT, FLIGHT_COLUMNS);
        private final Table settings = new Table(1, SETTING_COLUMNS);
        private int cardCount = 0;
        private int today = 0;
        private int flightsToday = 0;
        private int planesToday = 0;
        private int hoursThisWeek = 0;
        private int flightsSoFar = 0;
        private int badFlightsSoFar = 0;
        private int hoursSoFar = 0;

        Book() {
            for (int day = 0; day < WEATHER_DAYS; day++) {
                putWeather(day, 10, 50, 10);
            }
            settings.put(0, PLANES_OF_A_DAY, 2);
            settings.put(0, FLIGHTS_OF_A_DAY, 3);
            settings.put(0, HOURS_OF_A_WEEK, 12);
        }

        void copyFrom(Book other) {
            cards.copyFrom(other.cards);
            weather.copyFrom(other.weather);
            flights.copyFrom(other.flights);
            settings.copyFrom(other.settings);
            cardCount = other.cardCount;
            today = other.today;
            flightsToday = other.flightsToday;
            planesToday = other.planesToday;
            hoursThisWeek = other.hoursThisWeek;
            flightsSoFar = other.flightsSoFar;
            badFlightsSoFar = other.badFlightsSoFar;
            hoursSoFar = other.hoursSoFar;
        }

        boolean hasCard(int card) {
            return card >= 0 && card < cardCount;
        }

        int addCard(int wind, int ceiling, int sight, int planes, int hours, int before) {
            if (!areWeatherNumbers(wind, ceiling, sight) || !within(planes, 0, 3) || !within(hours, 1, 9)) {
                return INVALID_ARGUMENT;
            }
            if (before != NONE && !hasCard(before)) {
                return INVALID_ARGUMENT;
            }
            if (cardCount >= MOST_CARDS) {
                return LIMIT_REACHED;
            }
            int card = cardCount;
            cards.put(card, WIND, wind);
            cards.put(card, CEILING, ceiling);
            cards.put(card, SIGHT, sight);
            cards.put(card, PLANES, planes);
            cards.put(card, HOURS, hours);
            cards.put(card, BEFORE, before);
            cards.put(card, STATE, OPEN);
            cards.put(card, TIMES_FLOWN, 0);
            cardCount++;
            return card;
        }

        int tellWeather(int day, int wind, int ceiling, int sight) {
            if (!within(day, 0, WEATHER_DAYS - 1) || !areWeatherNumbers(wind, ceiling, sight)) {
                return INVALID_ARGUMENT;
            }
            putWeather(day, wind, ceiling, sight);
            return Integer.bitCount(cardsForWeather(day));
        }

        int flyCard(int card, int result) {
            if (!hasCard(card) || !within(result, WELL, AGAIN)) {
                return INVALID_ARGUMENT;
            }
            if (reasonAgainst(card, 0) != FLYABLE) {
                return NOT_POSSIBLE;
            }
            takeFlight(card, result);
            return flightsToday;
        }

        int waiveCard(int card) {
            if (!hasCard(card)) {
                return INVALID_ARGUMENT;
            }
            if (isDone(card)) {
                return NOT_POSSIBLE;
            }
            int state = cards.get(card, STATE);
            cards.put(card, STATE, WAIVED);
            return state;
        }

        int reopenCard(int card) {
            if (!hasCard(card)) {
                return INVALID_ARGUMENT;
            }
            if (!isDone(card)) {
                return NOT_POSSIBLE;
            }
            int opened = 1 << card | followersOf(card) & cardsInState(WELL);
            for (int other = 0; other < cardCount; other++) {
                if ((opened >> other & 1) == 1) {
                    cards.put(other, STATE, AGAIN);
                }
            }
            return Integer.bitCount(opened);
        }

        int passDays(int days) {
            if (!within(days, 1, 99)) {
                return INVALID_ARGUMENT;
            }
            if (today + days > LAST_DAY) {
                return LIMIT_REACHED;
            }
            goToDay(today + days);
            return today;
        }

        int changeSetting(int what, int value) {
            if (!within(what, 0, SETTING_COLUMNS - 1)) {
                return INVALID_ARGUMENT;
            }
            int lowest = what == PLANES_OF_A_DAY ? 0 : 1;
            int highest = what == HOURS_OF_A_WEEK ? 99 : 9;
            if (!within(value, lowest, highest)) {
                return INVALID_ARGUMENT;
            }
            int old = settings.get(0, what);
            settings.put(0, what, value);
            return old;
        }

        /** Without the limit of pass, as a plan may look beyond the last day. */
        void goToDay(int day) {
            if (weekOf(day) != weekOf(today)) {
                hoursThisWeek = 0;
            }
            flightsToday = 0;
            planesToday = 0;
            today = day;
        }

        void takeFlight(int card, int result) {
            noteFlight(card, result);
            int hours = cards.get(card, HOURS);
            cards.put(card, STATE, result);
            cards.put(card, TIMES_FLOWN, cards.get(card, TIMES_FLOWN) + 1);
            flightsToday++;
            planesToday += cards.get(card, PLANES);
            hoursThisWeek += hours;
            flightsSoFar++;
            hoursSoFar += hours;
            if (result == AGAIN) {
                badFlightsSoFar++;
            }
        }

        /** The rows go round, so that the next flight takes the row of the oldest one. */
        private void noteFlight(int card, int result) {
            int row = flightsSoFar % MOST_FLIGHTS_KEPT;
            int day = today % WEATHER_DAYS;
            flights.put(row, FLIGHT_CARD, card);
            flights.put(row, FLIGHT_DAY, today);
            flights.put(row, FLIGHT_RESULT, result);
            flights.put(row, FLIGHT_WIND_LEFT, cards.get(card, WIND) - weather.get(day, WIND));
            flights.put(row, FLIGHT_CEILING_LEFT, weather.get(day, CEILING) - cards.get(card, CEILING));
        }

        int flightsKept() {
            return Math.min(flightsSoFar, MOST_FLIGHTS_KEPT);
        }

        int rowOfFlight(int index) {
            return (flightsSoFar - 1 - index) % MOST_FLIGHTS_KEPT;
        }

        int reasonAgainst(int card, int later) {
            if (isDone(card)) {
                return DONE_ALREADY;
            }
            int before = cards.get(card, BEFORE);
            if (before != NONE && !isDone(before)) {
                return ONE_AHEAD_IS_MISSING;
            }
            int reason = reasonOfWeather(card, (today + later) % WEATHER_DAYS);
            return reason != FLYABLE ? reason : reasonOfTaking(card, later);
        }

        private int reasonOfWeather(int card, int day) {
            if (weather.get(day, WIND) > cards.get(card, WIND)) {
                return TOO_MUCH_WIND;
            }
            if (weather.get(day, CEILING) < cards.get(card, CEILING)) {
                return TOO_LOW_CEILING;
            }
            if (weather.get(day, SIGHT) < cards.get(card, SIGHT)) {
                return TOO_LITTLE_SIGHT;
            }
            return FLYABLE;
        }

        /** What is taken may be above a setting already; then even a card without planes has too many. */
        private int reasonOfTaking(int card, int later) {
            int flightsThen = later == 0 ? flightsToday : 0;
            int planesThen = later == 0 ? planesToday : 0;
            int hoursThen = weekOf(today + later) == weekOf(today) ? hoursThisWeek : 0;
            if (flightsThen + 1 > settings.get(0, FLIGHTS_OF_A_DAY)) {
                return TOO_MANY_FLIGHTS;
            }
            if (planesThen + cards.get(card, PLANES) > settings.get(0, PLANES_OF_A_DAY)) {
                return TOO_MANY_PLANES;
            }
            if (hoursThen + cards.get(card, HOURS) > settings.get(0, HOURS_OF_A_WEEK)) {
                return TOO_MANY_HOURS;
            }
            return FLYABLE;
        }

        private boolean isDone(int card) {
            int state = cards.get(card, STATE);
            return state == WELL || state == WAIVED;
        }

        /** The cards that have this one ahead of them, by one or more steps. */
        int followersOf(int card) {
            int followers = 0;
            for (int other = card + 1; other < cardCount; other++) {
                // A card has a lower number than its followers, so those between are found already.
                int before = cards.get(other, BEFORE);
                if (before == card || before != NONE && (followers >> before & 1) == 1) {
                    followers |= 1 << other;
                }
            }
            return followers;
        }

        int stepsAheadOf(int card) {
            int steps = 0;
            int before = cards.get(card, BEFORE);
            while (before != NONE && steps < MOST_CARDS) {
                steps++;
                before = cards.get(before, BEFORE);
            }
            return steps;
        }

        int cardsInState(int state) {
            int found = 0;
            for (int card = 0; card < cardCount; card++) {
                if (cards.get(card, STATE) == state) {
                    found |= 1 << card;
                }
            }
            return found;
        }

        int cardsLeft() {
            return cardsInState(OPEN) | cardsInState(AGAIN);
        }

        int cardsForWeather(int day) {
            int found = 0;
            for (int card = 0; card < cardCount; card++) {
                if (reasonOfWeather(card, day) == FLYABLE) {
                    found |= 1 << card;
                }
            }
            return found;
        }

        int cardsForToday() {
            int found = 0;
            for (int card = 0; card < cardCount; card++) {
                if (reasonAgainst(card, 0) == FLYABLE) {
                    found |= 1 << card;
                }
            }
            return found;
        }

        int lowestForToday() {
            for (int card = 0; card < cardCount; card++) {
                if (reasonAgainst(card, 0) == FLYABLE) {
                    return card;
                }
            }
            return NONE;
        }

        private void putWeather(int day, int wind, int ceiling, int sight) {
            weather.put(day, WIND, wind);
            weather.put(day, CEILING, ceiling);
            weather.put(day, SIGHT, sight);
        }

        private static boolean areWeatherNumbers(int wind, int ceiling, int sight) {
            return within(wind, 0, GREATEST_NUMBER) && within(ceiling, 0, GREATEST_NUMBER)
                    && within(sight, 0, GREATEST_NUMBER);
        }

        private static int weekOf(int day) {
            return day / DAYS_OF_A_WEEK;
        }
    }

    /** The latest states, the oldest first; the books are made once and used again. */
    private static final class History {
        private final Book[] states = new Book[MOST_STATES_KEPT];
        private int length = 0;

        History() {
            for (int place = 0; place < states.length; place++) {
                states[place] = new Book();
            }
        }

        void record(Book book) {
            if (length >= states.length) {
                dropOldest();
            }
            if (length >= 0 && length < states.length && states[length] != null) {
                states[length].copyFrom(book);
                length++;
            }
        }

        void restoreTo(Book book) {
            int latest = length - 1;
            if (latest >= 0 && latest < states.length && states[latest] != null) {
                book.copyFrom(states[latest]);
                length = latest;
            }
        }

        private void dropOldest() {
            if (states.length == 0) {
                return;
            }
            Book oldest = states[0];
            for (int place = 1; place < states.length; place++) {
                states[place - 1] = states[place];
            }
            states[states.length - 1] = oldest;
            length = states.length - 1;
        }
    }

    /** How all cards could be flown, day by day. */
    private static final class Plan {
        private static final int CARD = 0;
        private static final int LATER = 1;
        private static final int COLUMNS = 2;

        private final Table flights = new Table(MOST_CARDS, COLUMNS);
        private int length = 0;
        private int hours = 0;
        private int mostOfADay = 0;

        /** Flies the plan on this book, which has to be a copy. */
        void makeOn(Book book) {
            length = 0;
            hours = 0;
            mostOfADay = 0;
            for (int later = 0; later < DAYS_AHEAD && book.cardsLeft() != 0; later++) {
                if (later > 0) {
                    book.goToDay(book.today + 1);
                }
                mostOfADay = Math.max(mostOfADay, flyDay(book, later));
            }
        }

        private int flyDay(Book book, int later) {
            int flown = 0;
            int card = book.lowestForToday();
            // Each card is flown well once at most, so this ends.
            while (card != NONE && flown < MOST_CARDS) {
                flights.put(length, CARD, card);
                flights.put(length, LATER, later);
                length++;
                hours += book.cards.get(card, HOURS);
                book.takeFlight(card, WELL);
                flown++;
                card = book.lowestForToday();
            }
            return flown;
        }
    }

    /** The text; behind its end there is NONE, which no order has. */
    private static final class Text {
        private final int[] characters = new int[MOST_CHARACTERS];
        private int length = 0;

        void append(int character) {
            if (length >= 0 && length < characters.length) {
                characters[length] = character;
                length++;
            }
        }

        int characterAt(int position) {
            boolean inside = position >= 0 && position < length && position < characters.length;
            return inside ? characters[position] : NONE;
        }
    }

    /** One order of the text: a letter and its numbers. */
    private static final class Order {
        private static final int MOST_NUMBERS = 6;

        private final Table numbers = new Table(1, MOST_NUMBERS);
        private int letter = NONE;
        /** Behind the order that was read, or where it breaks off. */
        private int position = 0;

        /** Tells whether there is an order of the right form at start. */
        boolean readFrom(Text text, int start) {
            position = start;
            letter = text.characterAt(start);
            int wanted = numbersFor(letter);
            if (wanted == 0) {
                return false;
            }
            position++;
            for (int place = 0; place < wanted; place++) {
                if (!readNumber(text, place)) {
                    return false;
                }
                if (text.characterAt(position) != (place == wanted - 1 ? ';' : ',')) {
                    return false;
                }
                position++;
            }
            return true;
        }

        private boolean readNumber(Text text, int place) {
            int value = text.characterAt(position);
            if (!isDigit(value)) {
                return false;
            }
            value -= '0';
            position++;
            int second = text.characterAt(position);
            if (isDigit(second)) {
                value = value * 10 + second - '0';
                position++;
            }
            numbers.put(0, place, value);
            return true;
        }

        int doOn(Book book) {
            int number = numberAt(0);
            switch (letter) {
                case 'c':
                    return book.addCard(number, numberAt(1), numberAt(2), numberAt(3), numberAt(4), numberAt(5) - 1);
                case 'w':
                    return book.tellWeather(number, numberAt(1), numberAt(2), numberAt(3));
                case 'f':
                    return book.flyCard(number, WELL);
                case 'x':
                    return book.flyCard(number, AGAIN);
                default:
                    return book.passDays(number);
            }
        }

        private int numberAt(int place) {
            return numbers.get(0, place);
        }

        private static int numbersFor(int letter) {
            switch (letter) {
                case 'c':
                    return 6;
                case 'w':
                    return 4;
                case 'f':
                case 'x':
                case 'd':
                    return 1;
                default:
                    return 0;
            }
        }

        private static boolean isDigit(int character) {
            return character >= '0' && character <= '9';
        }
    }

    /** How the orders of a text go, up to the first one that is not possible. */
    private static final class Playing {
        private final Order order = new Order();
        private int ordersDone = 0;
        private int position = 0;
        private int reason = NO_FAULT;
        private int cause = 0;

        /** Does the orders on this book, which has to be a copy. */
        void playOn(Text text, Book book) {
            ordersDone = 0;
            position = 0;
            reason = NO_FAULT;
            cause = 0;
            // Each order takes at least one character, so there are no more orders than characters.
            while (position < text.length && ordersDone < MOST_CHARACTERS) {
                if (!order.readFrom(text, position)) {
                    reason = FAULT_OF_FORM;
                    cause = order.position - position;
                    return;
                }
                int answer = order.doOn(book);
                if (answer < 0) {
                    reason = FAULT_OF_CALL;
                    cause = answer;
                    return;
                }
                ordersDone++;
                position = order.position;
            }
        }
    }
}
