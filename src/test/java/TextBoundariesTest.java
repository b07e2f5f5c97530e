/** The boundary sentences of the promises 20 to 23: texts, their faults, and what is played. */
public final class TextBoundariesTest extends Boundaries {
    public static void main(String[] args) {
        runAll(TextBoundariesTest.class);
    }

    /** For a new object with this text: where the order at the beginning breaks off. */
    private static void dueBreak(String text, int cause) {
        Run x = another();
        x.write(text);
        dueFault(x, 0, 1, cause);
        x.due(IMPOSSIBLE, "play");
    }

    /** Types a text of one order: up to its last character it ends too early. */
    private static void dueEndsTooEarly(Run x, String order) {
        for (int length = 1; length <= order.length(); length++) {
            x.due(length, "type", order.charAt(length - 1));
            if (length < order.length()) {
                dueFault(x, 0, 1, length);
            }
        }
        dueFault(x, MISSING, MISSING, MISSING);
    }

    /** With another character at any one place the order breaks off there. */
    private static void dueBreaksAtEachPlace(String order) {
        for (int place = 0; place < order.length(); place++) {
            for (char other : new char[] {'z', ' ', '/', ':', '-'}) {
                dueBreak(order.substring(0, place) + other + order.substring(place + 1), place);
            }
        }
    }

    // ---- promise 20: type

    static void promise20Character() {
        Run x = sentence(20, "character: 32 to 126");
        x.refuses(0, 32, 126, "type", 32);
        x.due(1, "type", 32);
        x.due(2, "type", 126);
        x.due(2, "clearText");
    }

    static void promise20EachCharacter() {
        Run x = sentence(20, "Returns the length of the text");
        for (int character = 32; character <= 126; character++) {
            x.due((character - 32) % 60 + 1, "type", character);
            if (character == 91) {
                x.due(60, "clearText");
            }
        }
        x.due(35, "count", 9);
    }

    static void promise20Sixty() {
        Run x = sentence(20, "LIMIT_REACHED if it has 60 characters");
        for (int length = 1; length <= 60; length++) {
            x.due(length, "type", 'f');
        }
        x.due(LIMIT, "type", 'f');
        x.due(LIMIT, "type", 32);
        x.due(LIMIT, "type", 126);
        x.due(60, "count", 9);
        x.due(60, "clearText");
        x.due(1, "type", 'f');
    }

    static void promise20RangeAheadOfLimit() {
        Run x = sentence(20, "INVALID_ARGUMENT is returned rather than ... LIMIT_REACHED");
        x.write("d".repeat(60));
        x.refuses(0, 32, 126, "type", 32);
    }

    static void promise20AppendsAtTheEnd() {
        Run x = sentence(20, "Appends a character to the text.");
        x.write("d1;d2");
        dueFault(x, 3, 1, 2);
        x.due(6, "type", ';');
        x.due(2, "play");
        x.due(3, "count", 1);
    }

    // ---- promise 21: clearText

    static void promise21Length() {
        Run x = sentence(21, "Returns the length it had.");
        x.due(0, "clearText");
        x.does("type", 'd');
        x.due(1, "clearText");
        x.due(0, "clearText");
        x.write("d".repeat(60));
        x.due(60, "clearText");
        x.due(0, "clearText");
        x.due(0, "count", 9);
    }

    static void promise21NothingOfItIsLeft() {
        Run x = sentence(21, "Empties the text.");
        x.write("d1;d2;d3;");
        x.does("clearText");
        x.due(MISSING, "fault", 0);
        x.due(0, "play");
        x.does("type", 'd');
        dueFault(x, 0, 1, 1);
        x.does("type", '4');
        dueFault(x, 0, 1, 2);
        x.does("type", ';');
        x.due(1, "play");
        x.due(4, "count", 1);
    }

    // ---- promise 22: fault

    static void promise22What() {
        Run x = sentence(22, "INVALID_ARGUMENT if what is out of range");
        x.refuses(0, 0, 2, "fault", 0);
        x.write("d1;");
        x.refuses(0, 0, 2, "fault", 0);
        x.write("d1;z");
        x.refuses(0, 0, 2, "fault", 0);
        dueFault(x, 3, 1, 0);
    }

    static void promise22Empty() {
        Run x = sentence(22, "NOT_FOUND if the text has no fault (also if it is empty)");
        dueFault(x, MISSING, MISSING, MISSING);
        x.write("d1;");
        dueFault(x, MISSING, MISSING, MISSING);
        x.does("clearText");
        dueFault(x, MISSING, MISSING, MISSING);
        x.write("d1;".repeat(20));
        dueFault(x, MISSING, MISSING, MISSING);
    }

    static void promise22CardEndsTooEarly() {
        Run x = sentence(22, "of one that the text ends too early it is its length: \"c\" wind, \",\", ceiling, \",\", sight, ...");
        dueEndsTooEarly(x, "c12,34,05,1,9,0;");
        x.due(1, "play");
        dueEndsTooEarly(another(), "c99,99,99,03,09,00;");
        dueEndsTooEarly(another(), "c0,0,0,0,1,0;");
    }

    static void promise22WeatherEndsTooEarly() {
        Run x = sentence(22, "of one that the text ends too early it is its length: \"w\" day (0 to 27), \",\", wind, ...");
        dueEndsTooEarly(x, "w27,99,99,99;");
        dueEndsTooEarly(another(), "w0,0,0,0;");
        dueEndsTooEarly(another(), "w00,00,00,00;");
    }

    static void promise22OthersEndTooEarly() {
        Run x = sentence(22, "of one that the text ends too early it is its length: \"f\" a card, \"x\" a card or \"d\" days");
        easyCards(x, 12);
        dueEndsTooEarly(x, "f11;");
        Run y = another();
        easyCards(y, 1);
        dueEndsTooEarly(y, "x0;");
        dueEndsTooEarly(another(), "d99;");
        dueEndsTooEarly(another(), "d1;");
    }

    static void promise22LaterOneEndsTooEarly() {
        Run x = sentence(22, "The fault of the text is the position, from 0, of the first character of the first order that is not possible");
        x.write("d1;d99;w27,99,99,9");
        dueFault(x, 7, 1, 11);
        Run y = another();
        y.write("d1;".repeat(19) + "d1");
        dueFault(y, 57, 1, 2);
        y.does("type", '0');
        dueFault(y, 57, 1, 3);
        y.due(LIMIT, "type", ';');
    }

    static void promise22SixtiethCharacterBreaks() {
        Run x = sentence(22, "at which character of the order, from 0, it breaks off");
        x.write("d1;".repeat(19) + "d1,");
        dueFault(x, 57, 1, 2);
        Run y = another();
        y.write("d01;".repeat(14) + "d1;z");
        dueFault(y, 59, 1, 0);
    }

    static void promise22CardBreaksOff() {
        sentence(22, "its cause is with the reason 1 at which character of the order, from 0, it breaks off (c)");
        dueBreaksAtEachPlace("c1,2,3,0,5,0;");
        dueBreaksAtEachPlace("c12,34,56,00,05,00;");
    }

    static void promise22WeatherBreaksOff() {
        sentence(22, "its cause is with the reason 1 at which character of the order, from 0, it breaks off (w)");
        dueBreaksAtEachPlace("w1,2,3,4;");
        dueBreaksAtEachPlace("w12,34,56,78;");
    }

    static void promise22OthersBreakOff() {
        sentence(22, "its cause is with the reason 1 at which character of the order, from 0, it breaks off (f, x, d)");
        dueBreaksAtEachPlace("f0;");
        dueBreaksAtEachPlace("x00;");
        dueBreaksAtEachPlace("d12;");
    }

    static void promise22OtherLetters() {
        sentence(22, "its reason is 1 if it is not of this form");
        for (char letter = 32; letter <= 126; letter++) {
            if ("cwfxd".indexOf(letter) < 0) {
                dueBreak(letter + "0;", 0);
            }
        }
    }

    static void promise22NumbersOfOneOrTwoDigits() {
        sentence(22, "numbers of 1 or 2 digits, 0 ahead allowed");
        dueBreak("d;", 1);
        dueBreak("d100;", 3);
        dueBreak("d001;", 3);
        dueBreak("f000;", 3);
        dueBreak("x000;", 3);
        dueBreak("w;", 1);
        dueBreak("w,1,2,3;", 1);
        dueBreak("w1,,2,3;", 3);
        dueBreak("w1,2,,3;", 5);
        dueBreak("w1,2,3,;", 7);
        dueBreak("w001,2,3,4;", 3);
        dueBreak("w1,002,3,4;", 5);
        dueBreak("w1,2,003,4;", 7);
        dueBreak("w1,2,3,004;", 9);
        dueBreak("c100,0,0,0,1,0;", 3);
        dueBreak("c0,100,0,0,1,0;", 5);
        dueBreak("c0,0,100,0,1,0;", 7);
        dueBreak("c0,0,0,000,1,0;", 9);
        dueBreak("c0,0,0,0,001,0;", 11);
        dueBreak("c0,0,0,0,1,000;", 13);
        dueBreak("c0,0,0,0,1,;", 11);
        dueBreak("c0,0,0,0,,0;", 9);
        Run x = another();
        x.write("c01,02,03,00,04,00;w05,06,07,08;d09;d9;");
        x.due(4, "play");
        int[] card = {1, 2, 3, 0, 4, MISSING};
        for (int what = 0; what < card.length; what++) {
            x.due(card[what], "cardOf", 0, what);
        }
        x.due(6, "weatherOf", 5, 0);
        x.due(7, "weatherOf", 5, 1);
        x.due(8, "weatherOf", 5, 2);
        x.due(18, "count", 1);
    }

    static void promise22HowManyNumbers() {
        sentence(22, "its reason is 1 if it is not of this form, its \";\" included");
        dueBreak("d1,", 2);
        dueBreak("d1,2;", 2);
        dueBreak("f1,2;", 2);
        dueBreak("x1,2;", 2);
        dueBreak("w1;", 2);
        dueBreak("w1,2;", 4);
        dueBreak("w1,2,3;", 6);
        dueBreak("w1,2,3,4,", 8);
        dueBreak("w1,2,3,4,5;", 8);
        dueBreak("w01,02,03,04,5;", 12);
        dueBreak("c1;", 2);
        dueBreak("c1,2;", 4);
        dueBreak("c1,2,3;", 6);
        dueBreak("c1,2,3,0;", 8);
        dueBreak("c1,2,3,0,1;", 10);
        dueBreak("c1,2,3,0,1,0,", 12);
        dueBreak("c1,2,3,0,1,0,0;", 12);
        dueBreak("d1d1;", 2);
        dueBreak("d1 ;", 2);
        dueBreak(";", 0);
        dueBreak(" d1;", 0);
    }

    static void promise22EmptyOrder() {
        Run x = sentence(22, "orders, each followed by \";\"");
        x.write("d1;;d1;");
        dueFault(x, 3, 1, 0);
        x.write("d1; d1;");
        dueFault(x, 3, 1, 0);
        x.write("d1;");
        dueFault(x, MISSING, MISSING, MISSING);
    }

    static void promise22FormBeforeCall() {
        Run x = sentence(22, "its reason is 1 if it is not of this form, its \";\" included, and otherwise 2");
        x.write("f9");
        dueFault(x, 0, 1, 2);
        x.does("type", ';');
        dueFault(x, 0, 2, INVALID);
    }

    static void promise22FirstOfTwoFaults() {
        Run x = sentence(22, "the first order that is not possible");
        x.write("d1;f9;z");
        dueFault(x, 3, 2, INVALID);
        x.write("d1;z;f9;");
        dueFault(x, 3, 1, 0);
        x.write("d0;d0;");
        dueFault(x, 0, 2, INVALID);
    }

    static void promise22WithThoseAheadDone() {
        Run x = sentence(22, "otherwise 2, when those ahead of it are done");
        x.write("c9,0,0,0,1,0;w0,9,0,0;f0;f0;");
        dueFault(x, 25, 2, IMPOSSIBLE);
        x.write("c9,0,0,0,1,0;w0,9,0,0;x0;f0;");
        dueFault(x, MISSING, MISSING, MISSING);
        x.write("c9,0,0,0,1,0;f0;");
        dueFault(x, 13, 2, IMPOSSIBLE);
        x.due(0, "count", 0);
    }

    static void promise22FlightsOfTheDay() {
        Run x = sentence(22, "otherwise 2, when those ahead of it are done");
        easyCards(x, 1);
        x.write("x0;x0;x0;x0;");
        dueFault(x, 9, 2, IMPOSSIBLE);
        x.write("x0;x0;x0;d1;f0;");
        dueFault(x, MISSING, MISSING, MISSING);
    }

    static void promise22ErrorCodes() {
        Run x = sentence(22, "with the reason 2 the error code that the call returns for it");
        x.write("d1;f0;");
        dueFault(x, 3, 2, INVALID);
        easyCards(x, 12);
        x.write("f11;f11;");
        dueFault(x, 4, 2, IMPOSSIBLE);
        x.write("d1;c0,0,0,0,1,0;");
        dueFault(x, 3, 2, LIMIT);
        x.write("c0,0,0,4,1,0;");
        dueFault(x, 0, 2, INVALID);
        passTo(x, 0, 990);
        x.write("d9;d1;");
        dueFault(x, 3, 2, LIMIT);
        x.write("d10;");
        dueFault(x, 0, 2, LIMIT);
        x.write("d9;d0;");
        dueFault(x, 3, 2, INVALID);
    }

    static void promise22RangesOfCard() {
        Run x = sentence(22, "with the reason 2 the error code that the call returns for it (c)");
        x.write("c0,0,0,3,9,0;");
        dueFault(x, MISSING, MISSING, MISSING);
        x.write("c0,0,0,4,9,0;");
        dueFault(x, 0, 2, INVALID);
        x.write("c0,0,0,3,10,0;");
        dueFault(x, 0, 2, INVALID);
        x.write("c0,0,0,3,0,0;");
        dueFault(x, 0, 2, INVALID);
        x.write("c99,99,99,0,1,0;");
        dueFault(x, MISSING, MISSING, MISSING);
        x.write("c0,0,0,0,1,1;");
        dueFault(x, 0, 2, INVALID);
    }

    static void promise22CardPlusOne() {
        Run x = sentence(22, "a card plus 1 (0: none)");
        chain(x, 10);
        x.write("c0,0,0,0,1,11;");
        dueFault(x, 0, 2, INVALID);
        x.write("c0,0,0,0,1,10;");
        x.due(1, "play");
        x.due(9, "cardOf", 10, 5);
        x.write("c0,0,0,0,1,12;");
        dueFault(x, 0, 2, INVALID);
        x.write("c0,0,0,0,1,0;");
        x.due(1, "play");
        x.due(MISSING, "cardOf", 11, 5);
        x.write("c0,0,0,0,1,12;");
        dueFault(x, 0, 2, LIMIT);
        x.write("c0,0,0,0,1,13;");
        dueFault(x, 0, 2, INVALID);
        x.write("c0,0,0,0,1,99;");
        dueFault(x, 0, 2, INVALID);
    }

    static void promise22DayOfWeather() {
        Run x = sentence(22, "\"w\" day (0 to 27)");
        x.write("w27,0,0,0;");
        dueFault(x, MISSING, MISSING, MISSING);
        x.write("w28,0,0,0;");
        dueFault(x, 0, 2, INVALID);
        x.write("w99,0,0,0;");
        dueFault(x, 0, 2, INVALID);
    }

    static void promise22DaysThatPass() {
        Run x = sentence(22, "\"d\" days (they pass)");
        x.write("d0;");
        dueFault(x, 0, 2, INVALID);
        x.write("d00;");
        dueFault(x, 0, 2, INVALID);
        x.write("d99;d01;");
        dueFault(x, MISSING, MISSING, MISSING);
        x.due(2, "play");
        x.due(100, "count", 1);
    }

    static void promise22CardsToBeFlown() {
        Run x = sentence(22, "\"f\" a card (flown well), \"x\" a card (flown badly)");
        easyCards(x, 12);
        x.write("f12;");
        dueFault(x, 0, 2, INVALID);
        x.write("x12;");
        dueFault(x, 0, 2, INVALID);
        x.write("x99;");
        dueFault(x, 0, 2, INVALID);
        x.write("f11;x00;");
        dueFault(x, MISSING, MISSING, MISSING);
        x.due(2, "play");
        x.due(1, "cardOf", 11, 6);
        x.due(2, "cardOf", 0, 6);
    }

    static void promise22DoesNothing() {
        Run x = sentence(22, "Tells about the fault of the text.");
        x.write("c9,9,9,0,1,0;d9;w0,0,0,0;z");
        dueFault(x, 25, 1, 0);
        int[] counts = {0, 0, 0, 0, 0, 0, 0, 0, 0, 26};
        dueAll(x, "count", counts);
        x.due(10, "weatherOf", 0, 0);
    }

    // ---- promise 23: play

    static void promise23None() {
        Run x = sentence(23, "They are one change, also if there are none.");
        x.due(0, "play");
        x.due(1, "count", 8);
        x.due(0, "play");
        x.due(2, "count", 8);
        x.due(1, "undo");
        x.due(0, "undo");
    }

    static void promise23OneChange() {
        Run x = sentence(23, "They are one change, also if there are none.");
        x.write("c99,0,0,0,1,0;c99,0,0,0,1,1;f0;x1;d1;d1;");
        x.due(6, "play");
        x.due(1, "count", 8);
        x.due(0, "undo");
        x.due(0, "count", 0);
        x.due(0, "count", 1);
        x.due(0, "count", 5);
    }

    static void promise23OldestIsDropped() {
        Run x = sentence(23, "They are one change (if there are 5 states then, the oldest one is dropped)");
        x.write("d1;d1;");
        for (int n = 1; n <= 5; n++) {
            x.due(2, "play");
            x.due(Math.min(n, 4), "count", 8);
        }
        for (int left = 3; left >= 0; left--) {
            x.due(left, "undo");
        }
        x.due(2, "count", 1);
        x.due(IMPOSSIBLE, "undo");
    }

    static void promise23TextStays() {
        Run x = sentence(23, "Does all orders of the text, which stays.");
        x.write("d1;");
        x.due(1, "play");
        x.due(3, "count", 9);
        x.due(1, "play");
        x.due(2, "count", 1);
        x.does("type", 'd');
        x.due(IMPOSSIBLE, "play");
        x.due(4, "count", 9);
        x.due(4, "clearText");
    }

    static void promise23HowManyOrders() {
        Run x = sentence(23, "Returns how many there are in it");
        x.write("d1;".repeat(20));
        x.due(20, "play");
        x.due(20, "count", 1);
        x.write("w0,0,0,0;w1,1,1,1;");
        x.due(2, "play");
        x.write("w27,99,99,99;");
        x.due(1, "play");
        x.due(99, "weatherOf", 27, 0);
    }

    static void promise23Fault() {
        Run x = sentence(23, "NOT_POSSIBLE if it has a fault");
        easyCards(x, 1);
        for (String text : new String[] {"d", "d1", "d1,", "d1;d0;", "f0;f0;", "f1;", "d1;;", "f0;c0,0,0,0,10,0;"}) {
            x.write(text);
            x.due(IMPOSSIBLE, "play");
            x.due(1, "count", 8);
        }
        passTo(x, 0, 999);
        x.write("d1;");
        x.due(IMPOSSIBLE, "play");
        x.write("f0;");
        x.due(1, "play");
    }

    static void promise23EachOrder() {
        Run x = sentence(23, "\"c\" (a card comes), \"w\" (weather), \"f\" (flown well), \"x\" (flown badly) or \"d\" days (they pass)");
        x.write("c11,22,33,3,9,00;c99,0,0,0,1,01;w00,11,22,33;");
        x.due(3, "play");
        int[] first = {11, 22, 33, 3, 9, MISSING, 0, 0, 1, 0};
        int[] second = {99, 0, 0, 0, 1, 0, 0, 0, 0, 1};
        for (int what = 0; what <= 9; what++) {
            x.due(first[what], "cardOf", 0, what);
            x.due(second[what], "cardOf", 1, what);
        }
        x.does("set", 0, 6);
        x.does("set", 2, 18);
        x.write("x0;f0;d99;x01;f1;");
        x.due(5, "play");
        int[] counts = {2, 99, 2, 0, 2, 4, 2, 20, 4, 17};
        dueAll(x, "count", counts);
        int[] results = {1, 2, 1, 2};
        for (int index = 0; index <= 3; index++) {
            x.due(results[index], "flightOf", index, 2);
            x.due(index < 2 ? 1 : 0, "flightOf", index, 0);
            x.due(index < 2 ? 99 : 0, "flightOf", index, 1);
        }
    }
}
