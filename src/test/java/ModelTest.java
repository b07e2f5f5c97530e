import java.util.ArrayList;
import java.util.List;
import java.util.Random;
import java.util.TreeMap;

/** Runs of random calls, each answered by the class and by a model written apart from it, in the plainest way. */
public final class ModelTest {
    private static final int RUNS = 1500;
    private static final int CALLS = 512;
    /** Seeds that are near to one another begin with nearly the same numbers. */
    private static final long SPREAD = 0x9E3779B97F4A7C15L;
    private static final int INVALID = -1000001;
    private static final int IMPOSSIBLE = -1000002;
    private static final int LIMIT = -1000003;
    private static final int MISSING = -1000004;

    public static void main(String[] args) {
        TreeMap<String, Integer> answers = new TreeMap<>();
        for (int run = 0; run < RUNS; run++) {
            if (!agrees(run, answers)) {
                System.exit(1);
            }
        }
        System.out.println("model: " + RUNS + " runs agree; answers by kind: " + answers);
    }

    private static boolean agrees(int run, TreeMap<String, Integer> answers) {
        Caller caller = new Caller(new Random(run * SPREAD));
        SortieCards real = new SortieCards();
        Model model = new Model();
        List<String> told = new ArrayList<>();
        for (int n = 0; n < CALLS; n++) {
            caller.choose();
            int got = caller.callReal(real);
            int want = caller.callModel(model);
            told.add(caller.told() + " = " + got);
            answers.merge(caller.name + (want <= INVALID ? " " + want : " ok"), 1, Integer::sum);
            if (got != want) {
                System.out.println("run " + run + ": due is " + want + " for the last of");
                told.forEach(System.out::println);
                return false;
            }
        }
        return true;
    }

    /** Chooses calls with arguments that are mostly in range, and now and then at or beyond its ends. */
    private static final class Caller {
        private static final String[] NAMES = {
            "card", "weather", "fly", "waive", "reopen", "pass", "set", "why", "cardOf", "flightOf", "weatherOf",
            "cards", "first", "planned", "plan", "worst", "count", "undo", "type", "clearText", "fault", "play",
        };
        private final Random random;
        private final boolean lateRun;
        private final int kindOfWeather;
        private final int oftenCards;
        private final int oftenFlights;
        private int cardsAsked = 0;
        private final List<Integer> toType = new ArrayList<>();
        private String name = "";
        private int[] a = {};

        Caller(Random random) {
            this.random = random;
            this.lateRun = random.nextInt(8) == 0;
            this.kindOfWeather = random.nextInt(3);
            this.oftenCards = random.nextInt(4);
            this.oftenFlights = random.nextInt(12);
        }

        void choose() {
            if (!toType.isEmpty() && random.nextInt(12) != 0) {
                name = "type";
                a = new int[] {toType.remove(0)};
                return;
            }
            name = chooseName();
            a = arguments();
            if (name.equals("card")) {
                cardsAsked++;
            }
            if (name.equals("clearText") && toType.isEmpty() && random.nextInt(4) == 0) {
                chooseText();
            }
        }

        private String chooseName() {
            int chance = random.nextInt(40);
            if (chance < oftenCards) {
                return "card";
            }
            if (chance < oftenCards + oftenFlights) {
                return "fly";
            }
            if (lateRun && random.nextInt(6) == 0) {
                return "pass";
            }
            String chosen = NAMES[random.nextInt(NAMES.length)];
            return chosen.equals("undo") && random.nextBoolean() ? "play" : chosen;
        }

        private int[] arguments() {
            switch (name) {
                case "card":
                    return new int[] {limit(true), limit(false), limit(false), in(0, 3), in(1, 9), before()};
                case "weather":
                    return new int[] {in(0, 27), number(), number(), number()};
                case "fly":
                    return new int[] {cardNumber(), in(1, 2)};
                case "waive":
                case "reopen":
                case "first":
                    return new int[] {cardNumber()};
                case "pass":
                    return new int[] {lateRun ? in(1, 99) : in(random.nextInt(9) == 0 ? 99 : 1, 4)};
                case "set":
                    int what = in(0, 2);
                    return new int[] {what, what == 2 ? in(1, random.nextBoolean() ? 99 : 15) : in(1 - what % 2, 9)};
                case "why":
                    return new int[] {cardNumber(), in(0, random.nextBoolean() ? 99 : 9)};
                case "cardOf":
                    return new int[] {cardNumber(), in(0, 9)};
                case "flightOf":
                    return new int[] {in(0, 11), in(0, 4)};
                case "weatherOf":
                    return new int[] {in(0, 27), in(0, 3)};
                case "planned":
                    return new int[] {in(0, 12), in(0, 1)};
                case "cards":
                    return new int[] {in(0, 4)};
                case "plan":
                    return new int[] {in(0, 5)};
                case "worst":
                    return new int[] {in(0, 1)};
                case "count":
                    return new int[] {random.nextInt(4) == 0 ? in(20, 22) : in(0, 9)};
                case "type":
                    return new int[] {in(32, 126)};
                case "fault":
                    return new int[] {in(0, 2)};
                default:
                    return new int[] {};
            }
        }

        private int in(int lowest, int highest) {
            int chance = random.nextInt(60);
            if (chance == 0) {
                return lowest - 1;
            }
            if (chance == 1) {
                return highest + 1;
            }
            if (chance == 2 && random.nextInt(10) == 0) {
                return random.nextInt();
            }
            return lowest + random.nextInt(Math.max(1, highest - lowest + 1));
        }

        private int number() {
            return kindOfWeather == 0 ? in(0, 99) : in(40, 60);
        }

        private int limit(boolean greatest) {
            int easy = greatest ? 99 : 0;
            if (kindOfWeather == 1) {
                return random.nextInt(3) == 0 ? in(8, 52) : easy;
            }
            return random.nextInt(4) == 0 ? number() : easy;
        }

        private int cardNumber() {
            return in(0, Math.min(11, Math.max(0, cardsAsked - 1)));
        }

        private int before() {
            return random.nextBoolean() ? -1 : cardNumber();
        }

        private void chooseText() {
            StringBuilder text = new StringBuilder();
            int orders = random.nextInt(9);
            for (int n = 0; n < orders; n++) {
                text.append(order());
            }
            if (random.nextInt(4) == 0 && text.length() > 0) {
                text.setCharAt(random.nextInt(text.length()), "0;,9 fcwxdz/:"
                        .charAt(random.nextInt(13)));
            }
            if (random.nextInt(6) == 0 && text.length() > 0) {
                text.setLength(random.nextInt(text.length()));
            }
            text.chars().forEach(toType::add);
        }

        private String order() {
            switch (random.nextInt(7)) {
                case 0:
                    return "c" + digits(99) + "," + digits(30) + "," + digits(10) + "," + digits(3) + ","
                            + (1 + random.nextInt(9)) + "," + digits(3) + ";";
                case 1:
                    return "w" + digits(28) + "," + digits(99) + "," + digits(99) + "," + digits(99) + ";";
                case 2:
                case 3:
                    return "f" + digits(5) + ";";
                case 4:
                    return "x" + digits(5) + ";";
                default:
                    return "d" + digits(random.nextBoolean() ? 2 : 8) + ";";
            }
        }

        private String digits(int highest) {
            int value = random.nextInt(highest + 1);
            return value < 10 && random.nextInt(3) == 0 ? "0" + value : "" + value;
        }

        String told() {
            return Calls.told(name, a);
        }

        int callReal(SortieCards x) {
            return Calls.make(x, name, a);
        }

        int callModel(Model x) {
            switch (name) {
                case "why": return x.why(a[0], a[1]);
                case "cardOf": return x.cardOf(a[0], a[1]);
                case "flightOf": return x.flightOf(a[0], a[1]);
                case "weatherOf": return x.weatherOf(a[0], a[1]);
                case "cards": return x.cards(a[0]);
                case "first": return x.first(a[0]);
                case "planned": return x.planned(a[0], a[1]);
                case "plan": return x.plan(a[0]);
                case "worst": return x.worst(a[0]);
                case "count": return x.count(a[0]);
                case "undo": return x.undo();
                case "type": return x.type(a[0]);
                case "clearText": return x.clearText();
                case "fault": return x.fault(a[0]);
                default: return x.change(name, a);
            }
        }
    }

    private record Flown(int card, int day, int result, int windLeft, int ceilingLeft) {
    }

    private static final class ModelCard {
        private int[] given = {};
        private int state = 0;

        ModelCard(int[] given, int state) {
            this.given = given;
            this.state = state;
        }

        int before() {
            return given[5];
        }

        boolean isDone() {
            return state == 1 || state == 3;
        }
    }

    /** The state of a model: every number that can be told from the flights is told from them. */
    private static final class Situation {
        private final List<ModelCard> cards = new ArrayList<>();
        private final int[][] weather = new int[28][];
        private final List<Flown> flown = new ArrayList<>();
        private final int[] settings = {2, 3, 12};
        private int today = 0;

        Situation() {
            for (int day = 0; day < 28; day++) {
                weather[day] = new int[] {10, 50, 10};
            }
        }

        Situation copy() {
            Situation other = new Situation();
            for (ModelCard card : cards) {
                other.cards.add(new ModelCard(card.given, card.state));
            }
            for (int day = 0; day < 28; day++) {
                other.weather[day] = weather[day];
            }
            other.flown.addAll(flown);
            System.arraycopy(settings, 0, other.settings, 0, 3);
            other.today = today;
            return other;
        }

        boolean has(int card) {
            return 0 <= card && card < cards.size();
        }

        boolean suits(int card, int day) {
            return reasonOfWeather(card, day) == 0;
        }

        int reasonOfWeather(int card, int day) {
            int[] given = cards.get(card).given;
            int[] then = weather[day % 28];
            return then[0] > given[0] ? 3 : then[1] < given[1] ? 4 : then[2] < given[2] ? 5 : 0;
        }

        /** What was taken on a day, as far as it was flown before. */
        int flightsOn(int day) {
            return (int) flown.stream().filter(flight -> flight.day == day).count();
        }

        int planesOn(int day) {
            return flown.stream().filter(flight -> flight.day == day).mapToInt(f -> cards.get(f.card).given[3]).sum();
        }

        int hoursInWeek(int week) {
            return flown.stream().filter(f -> f.day / 7 == week).mapToInt(f -> cards.get(f.card).given[4]).sum();
        }

        int why(int number, int day) {
            ModelCard card = cards.get(number);
            if (card.isDone()) {
                return 1;
            }
            if (card.before() >= 0 && !cards.get(card.before()).isDone()) {
                return 2;
            }
            if (!suits(number, day)) {
                return reasonOfWeather(number, day);
            }
            if (flightsOn(day) >= settings[1]) {
                return 6;
            }
            if (planesOn(day) > settings[0] - card.given[3]) {
                return 7;
            }
            return hoursInWeek(day / 7) > settings[2] - card.given[4] ? 8 : 0;
        }

        void take(int card, int result) {
            int[] given = cards.get(card).given;
            int[] then = weather[today % 28];
            flown.add(new Flown(card, today, result, given[0] - then[0], then[1] - given[1]));
            cards.get(card).state = result;
        }

        boolean isAhead(int card, int of) {
            int before = cards.get(of).before();
            return before >= 0 && (before == card || isAhead(card, before));
        }

        int steps(int card) {
            int before = cards.get(card).before();
            return before < 0 ? 0 : 1 + steps(before);
        }
    }

    private static final class Model {
        private Situation s = new Situation();
        private final List<Situation> history = new ArrayList<>();
        private String text = "";

        int change(String name, int[] a) {
            Situation tried = s.copy();
            int answer = name.equals("play") ? playOn(tried) : changeOn(tried, name, a);
            if (answer >= 0) {
                history.add(s);
                if (history.size() == 5) {
                    history.remove(0);
                }
                s = tried;
            }
            return answer;
        }

        private int playOn(Situation tried) {
            int[] fault = new int[3];
            int orders = run(tried, fault);
            return orders < 0 ? IMPOSSIBLE : orders;
        }

        private static boolean out(int value, int lowest, int highest) {
            return value < lowest || value > highest;
        }

        private static int changeOn(Situation s, String name, int[] a) {
            switch (name) {
                case "card":
                    return addCard(s, a);
                case "weather":
                    if (out(a[0], 0, 27) || out(a[1], 0, 99) || out(a[2], 0, 99) || out(a[3], 0, 99)) {
                        return INVALID;
                    }
                    s.weather[a[0]] = new int[] {a[1], a[2], a[3]};
                    return Integer.bitCount(setForWeather(s, a[0]));
                case "fly":
                    if (!s.has(a[0]) || a[1] != 1 && a[1] != 2) {
                        return INVALID;
                    }
                    if (s.why(a[0], s.today) != 0) {
                        return IMPOSSIBLE;
                    }
                    s.take(a[0], a[1]);
                    return s.flightsOn(s.today);
                case "waive":
                    return waive(s, a[0]);
                case "reopen":
                    return reopen(s, a[0]);
                case "pass":
                    if (out(a[0], 1, 99)) {
                        return INVALID;
                    }
                    if (a[0] > 999 - s.today) {
                        return LIMIT;
                    }
                    s.today += a[0];
                    return s.today;
                default:
                    int[][] ranges = {{0, 9}, {1, 9}, {1, 99}};
                    if (out(a[0], 0, 2) || out(a[1], ranges[a[0]][0], ranges[a[0]][1])) {
                        return INVALID;
                    }
                    int old = s.settings[a[0]];
                    s.settings[a[0]] = a[1];
                    return old;
            }
        }

        private static int addCard(Situation s, int[] a) {
            if (out(a[0], 0, 99) || out(a[1], 0, 99) || out(a[2], 0, 99) || out(a[3], 0, 3) || out(a[4], 1, 9)) {
                return INVALID;
            }
            if (a[5] != -1 && !s.has(a[5])) {
                return INVALID;
            }
            if (s.cards.size() == 12) {
                return LIMIT;
            }
            s.cards.add(new ModelCard(a.clone(), 0));
            return s.cards.size() - 1;
        }

        private static int waive(Situation s, int card) {
            if (!s.has(card)) {
                return INVALID;
            }
            if (s.cards.get(card).isDone()) {
                return IMPOSSIBLE;
            }
            int state = s.cards.get(card).state;
            s.cards.get(card).state = 3;
            return state;
        }

        private static int reopen(Situation s, int card) {
            if (!s.has(card)) {
                return INVALID;
            }
            if (!s.cards.get(card).isDone()) {
                return IMPOSSIBLE;
            }
            s.cards.get(card).state = 2;
            int opened = 1;
            for (int other = 0; other < s.cards.size(); other++) {
                if (s.cards.get(other).state == 1 && s.isAhead(card, other)) {
                    s.cards.get(other).state = 2;
                    opened++;
                }
            }
            return opened;
        }

        int why(int card, int later) {
            return !s.has(card) || out(later, 0, 99) ? INVALID : s.why(card, s.today + later);
        }

        int cardOf(int number, int what) {
            if (!s.has(number) || out(what, 0, 9)) {
                return INVALID;
            }
            ModelCard card = s.cards.get(number);
            switch (what) {
                case 5:
                    return card.before() < 0 ? MISSING : card.before();
                case 6:
                    return card.state;
                case 7:
                    return (int) s.flown.stream().filter(flight -> flight.card == number).count();
                case 8:
                    int followers = 0;
                    for (int other = 0; other < s.cards.size(); other++) {
                        followers += s.isAhead(number, other) ? 1 : 0;
                    }
                    return followers;
                case 9:
                    return s.steps(number);
                default:
                    return card.given[what];
            }
        }

        int flightOf(int index, int what) {
            if (index < 0 || out(what, 0, 4)) {
                return INVALID;
            }
            if (index >= 10 || index >= s.flown.size()) {
                return MISSING;
            }
            Flown flight = s.flown.get(s.flown.size() - 1 - index);
            return new int[] {flight.card, flight.day, flight.result, flight.windLeft, flight.ceilingLeft}[what];
        }

        private static int setForWeather(Situation s, int day) {
            int set = 0;
            for (int card = 0; card < s.cards.size(); card++) {
                set += s.suits(card, day) ? 1 << card : 0;
            }
            return set;
        }

        int weatherOf(int day, int what) {
            if (out(day, 0, 27) || out(what, 0, 3)) {
                return INVALID;
            }
            return what == 3 ? setForWeather(s, day) : s.weather[day][what];
        }

        int cards(int what) {
            if (out(what, 0, 4)) {
                return INVALID;
            }
            int set = 0;
            for (int card = 0; card < s.cards.size(); card++) {
                boolean isIn = what == 4 ? s.why(card, s.today) == 0 : s.cards.get(card).state == what;
                set += isIn ? 1 << card : 0;
            }
            return set;
        }

        int first(int card) {
            if (!s.has(card)) {
                return INVALID;
            }
            for (int later = 0; later <= 99; later++) {
                if (s.why(card, s.today + later) == 0) {
                    return later;
                }
            }
            return MISSING;
        }

        /** The flights of the plan are those that the situation has more, when it is done. */
        private Situation done() {
            Situation ahead = s.copy();
            for (int later = 0; later < 100; later++) {
                ahead.today = s.today + later;
                boolean flew = true;
                while (flew) {
                    flew = false;
                    for (int card = 0; card < ahead.cards.size() && !flew; card++) {
                        if (ahead.why(card, ahead.today) == 0) {
                            ahead.take(card, 1);
                            flew = true;
                        }
                    }
                }
            }
            return ahead;
        }

        private List<Flown> flightsOf(Situation ahead) {
            return ahead.flown.subList(s.flown.size(), ahead.flown.size());
        }

        int planned(int place, int what) {
            if (place < 0 || out(what, 0, 1)) {
                return INVALID;
            }
            List<Flown> flights = flightsOf(done());
            if (place >= flights.size()) {
                return MISSING;
            }
            return what == 0 ? flights.get(place).card : flights.get(place).day - s.today;
        }

        int plan(int what) {
            if (out(what, 0, 5)) {
                return INVALID;
            }
            Situation ahead = done();
            List<Flown> flights = flightsOf(ahead);
            int left = 0;
            for (int card = 0; card < ahead.cards.size(); card++) {
                left += ahead.cards.get(card).isDone() ? 0 : 1 << card;
            }
            switch (what) {
                case 0:
                    return left == 0 ? 1 : 0;
                case 1:
                    return flights.size();
                case 2:
                    return flights.isEmpty() ? MISSING : flights.get(flights.size() - 1).day - s.today;
                case 3:
                    return flights.stream().mapToInt(flight -> s.cards.get(flight.card).given[4]).sum();
                case 4:
                    return flights.stream().mapToInt(flight -> (int) flights.stream()
                            .filter(other -> other.day == flight.day).count()).max().orElse(0);
                default:
                    return left;
            }
        }

        int worst(int what) {
            if (out(what, 0, 1)) {
                return INVALID;
            }
            int best = 0;
            int often = 0;
            for (int reason = 3; reason <= 8; reason++) {
                int times = 0;
                for (int card = 0; card < s.cards.size(); card++) {
                    for (int later = 0; later < 28; later++) {
                        times += s.why(card, s.today + later) == reason ? 1 : 0;
                    }
                }
                if (times > often) {
                    best = reason;
                    often = times;
                }
            }
            return often == 0 ? MISSING : what == 0 ? best : often;
        }

        int count(int what) {
            switch (what) {
                case 0: return s.cards.size();
                case 1: return s.today;
                case 2: return s.flightsOn(s.today);
                case 3: return s.planesOn(s.today);
                case 4: return s.hoursInWeek(s.today / 7);
                case 5: return s.flown.size();
                case 6: return (int) s.flown.stream().filter(flight -> flight.result == 2).count();
                case 7: return s.flown.stream().mapToInt(flight -> s.cards.get(flight.card).given[4]).sum();
                case 8: return history.size();
                case 9: return text.length();
                default: return out(what, 20, 22) ? INVALID : s.settings[what - 20];
            }
        }

        int undo() {
            if (history.isEmpty()) {
                return IMPOSSIBLE;
            }
            s = history.remove(history.size() - 1);
            return history.size();
        }

        int type(int character) {
            if (out(character, 32, 126)) {
                return INVALID;
            }
            if (text.length() == 60) {
                return LIMIT;
            }
            text += (char) character;
            return text.length();
        }

        int clearText() {
            int length = text.length();
            text = "";
            return length;
        }

        int fault(int what) {
            if (out(what, 0, 2)) {
                return INVALID;
            }
            int[] fault = new int[3];
            return run(s.copy(), fault) >= 0 ? MISSING : fault[what];
        }

        /** How many orders there are, or -1 and the fault: position, reason and cause. */
        private int run(Situation tried, int[] fault) {
            String rest = text;
            int orders = 0;
            while (!rest.isEmpty()) {
                fault[0] = text.length() - rest.length();
                int end = rest.indexOf(';') + 1;
                String order = rest.substring(0, end);
                if (!order.matches(formOf(rest.charAt(0)) + ";")) {
                    fault[1] = 1;
                    fault[2] = breaksOff(rest);
                    return -1;
                }
                int answer = obey(tried, order.charAt(0), order.substring(1, end - 1).split(","));
                if (answer < 0) {
                    fault[1] = 2;
                    fault[2] = answer;
                    return -1;
                }
                orders++;
                rest = rest.substring(end);
            }
            return orders;
        }

        private static String formOf(char letter) {
            String number = "[0-9][0-9]?";
            switch (letter) {
                case 'c':
                    return "c" + number + ("," + number).repeat(5);
                case 'w':
                    return "w" + number + ("," + number).repeat(3);
                case 'f':
                case 'x':
                case 'd':
                    return letter + number;
                default:
                    return "[^ -~]";
            }
        }

        /** The longest piece that could still become an order: completed by some of these endings. */
        private static int breaksOff(String rest) {
            int longest = 0;
            for (int length = 1; length <= rest.length(); length++) {
                String piece = rest.substring(0, length);
                for (int more = 0; more < 6; more++) {
                    String list = "1" + ",1".repeat(more) + ";";
                    boolean fits = (piece + list).matches(formOf(rest.charAt(0)) + ";")
                            || (piece + list.substring(1)).matches(formOf(rest.charAt(0)) + ";");
                    longest = fits ? length : longest;
                }
            }
            return longest;
        }

        private static int obey(Situation tried, char letter, String[] words) {
            int[] a = new int[words.length];
            for (int place = 0; place < a.length; place++) {
                a[place] = Integer.parseInt(words[place]);
            }
            switch (letter) {
                case 'c':
                    a[5]--;
                    return changeOn(tried, "card", a);
                case 'w':
                    return changeOn(tried, "weather", a);
                case 'f':
                    return changeOn(tried, "fly", new int[] {a[0], 1});
                case 'x':
                    return changeOn(tried, "fly", new int[] {a[0], 2});
                default:
                    return changeOn(tried, "pass", a);
            }
        }
    }
}
