/** Makes a call of the face by its name, and tells it as a text. */
final class Calls {
    private Calls() {
    }

    static int make(SortieCards x, String name, int... a) {
        switch (name) {
            case "card": return x.card(a[0], a[1], a[2], a[3], a[4], a[5]);
            case "weather": return x.weather(a[0], a[1], a[2], a[3]);
            case "fly": return x.fly(a[0], a[1]);
            case "waive": return x.waive(a[0]);
            case "reopen": return x.reopen(a[0]);
            case "pass": return x.pass(a[0]);
            case "set": return x.set(a[0], a[1]);
            case "why": return x.why(a[0], a[1]);
            case "cardOf": return x.cardOf(a[0], a[1]);
            case "flightOf": return x.flightOf(a[0], a[1]);
            case "weatherOf": return x.weatherOf(a[0], a[1]);
            case "cards": return x.cards(a[0]);
            case "first": return x.first(a[0]);
            case "planned": return x.planned(a[0], a[1]);
            case "plan": return x.plan(a[0]);
            case "worst": return x.worst(a[0]);
            case "count": return x.count(a[0]);
            case "undo": return x.undo();
            case "type": return x.type(a[0]);
            case "clearText": return x.clearText();
            case "fault": return x.fault(a[0]);
            case "play": return x.play();
            default: throw new IllegalArgumentException("no call has the name " + name);
        }
    }

    static String told(String name, int... a) {
        StringBuilder text = new StringBuilder(name + "(");
        for (int place = 0; place < a.length; place++) {
            text.append(place == 0 ? "" : ", ").append(a[place]);
        }
        return text.append(")").toString();
    }
}
