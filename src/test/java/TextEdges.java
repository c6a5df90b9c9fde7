/** The text, and how it is read as a weather sheet. */
final class TextEdges extends Edges {
    TextEdges(Checks checks, Document document) {
        super(checks, document);
    }

    @Override
    void all() {
        section("Text");
        theText();
        sheet();
        entry();
        numbers();
        hours();
        meaning();
        fault();
    }

    /** The texts, and behind each the answer that is due. */
    private void reads(Object... textsAndAnswers) {
        for (int i = 0; i < textsAndAnswers.length; i += 2) {
            String text = (String) textsAndAnswers[i];
            HeatPumpPlant x = made();
            c.due("loadWeather() of \"" + text + "\"", loaded(x, text), (Integer) textsAndAnswers[i + 1]);
        }
    }

    /** The answer to a text with this fault. */
    private static int at(int fault) {
        return -10 - fault;
    }

    private void theText() {
        test("There is a text of at most 100 characters", () -> {
            HeatPumpPlant x = made();
            for (int i = 1; i <= 100; i++) {
                c.due("type(57)", x.type(57), i);
            }
            c.due("type(57) into a full text", x.type(57), FULL);
            c.due("clearText()", x.clearText(), 100);
            c.due("type(57)", x.type(57), 1);
        });
        test("with codes from 32 to 126,", () -> {
            HeatPumpPlant x = made();
            for (int code = 32; code <= 126; code++) {
                c.holds("type(" + code + ")", x.type(code) > 0);
            }
            c.due("type(31)", x.type(31), BAD);
            c.due("type(127)", x.type(127), BAD);
            c.due("clearText()", x.clearText(), 95);
        });
        test("initially empty.", () -> {
            c.due("clearText()", made().clearText(), 0);
            c.due("loadWeather()", made().loadWeather(), 0);
            c.due("type(32)", made().type(32), 1);
        });
    }

    private void sheet() {
        test("As a weather sheet, it is a sequence of entries (possibly none),", () -> {
            reads("", 0, "1:1;", 1, "1:1;1:1;", 2, "1:1;2:2;3:3;", 3, "0-23:0;0:1c;", 2);
            StringBuilder many = new StringBuilder();
            for (int i = 1; i <= 25; i++) {
                many.append(i % 10).append(":7;");
                reads(many.toString(), i);
            }
        });
        test("without spaces.", () -> reads(" ", at(0), " 1:1;", at(0), "1 :1;", at(1), "1: 1;", at(2), "1:1 ;", at(3), "1:1; ",
            at(4), "1:1; 2:2;", at(4), "1 -2:1;", at(1), "1- 2:1;", at(2), "1-2 :1;", at(3), "1:- 1;", at(3), "1:1 c;", at(3),
            "1:1c ;", at(4), "1 2:1;", at(1), "1:1 2;", at(3)));
    }

    private void entry() {
        test("An entry consists of an hour;", () -> reads(":1;", at(0), "-1:1;", at(0), ";", at(0), "x:1;", at(0), "c", at(0),
            "/:1;", at(0), "::1;", at(0), "1:1;:1;", at(4)));
        test("optionally a minus sign and a second hour;", () -> reads("1-2:1;", 1, "1-1:1;", 1, "0-23:1;", 1, "1-:1;", at(2),
            "1--2:1;", at(2), "1-;", at(2), "1-x:1;", at(2), "1-2-3:1;", at(3), "12-13-14:1;", at(5), "1+2:1;", at(1)));
        test("a colon;", () -> reads("1;", at(1), "12;", at(2), "1-2;", at(3), "1-23;", at(4), "1::1;", at(2), "1;1;", at(1),
            "1.1;", at(1), "1c;", at(1), "10-20=1;", at(5), "9 1;", at(1)));
        test("optionally a minus sign;", () -> reads("1:-1;", 1, "1:1;", 1, "1:--1;", at(3), "1:-;", at(3), "1:+1;", at(2), "1:1-;",
            at(3), "1:1-2;", at(3), "1:-c;", at(3)));
    }

    private void numbers() {
        test("a number of 1 to 3 digits,", () -> reads("1:;", at(2), "1:c;", at(2), "1:-;", at(3), "1:1;", 1, "1:12;", 1, "1:123;", 1,
            "1:1234;", at(5), "1:-1;", 1, "1:-12;", 1, "1:-123;", 1, "1:-1234;", at(6), "1:1.2;", at(3), "1:/;", at(2), "1:1:;", at(3)));
        test("whose first digit is not 0 unless it is the only digit;", () -> reads("1:0;", 1, "1:-0;", 1, "1:0c;", 1, "1:00;", at(3),
            "1:01;", at(3), "1:-01;", at(4), "1:-00;", at(4), "1:000;", at(3), "1:012;", at(3), "1:10;", 1, "1:100;", 1, "1:-100;", 1,
            "1:101;", 1, "1:1000;", at(5)));
        test("optionally one of the letters c, n and p;", () -> reads("1:1c;", 1, "1:1n;", 1, "1:1p;", 1, "1:123c;", 1, "1:-12p;", 1,
            "1:1cc;", at(4), "1:1cn;", at(4), "1:1C;", at(3), "1:1N;", at(3), "1:1P;", at(3), "1:1b;", at(3), "1:1d;", at(3), "1:1m;",
            at(3), "1:1o;", at(3), "1:1q;", at(3), "1:c1;", at(2), "1:1c2;", at(4), "c1:1;", at(0), "1:1;c", at(4)));
        test("and a semicolon.", () -> reads("1:1", at(3), "1:1c", at(4), "1:1:", at(3), "1:1,", at(3), "1:1c,", at(4), "1:1;;", at(4),
            "1:1c;;", at(5), "1:1<", at(3), "1:12", at(4), "1:123", at(5), "1:0", at(3), "1:123:", at(5)));
    }

    private void hours() {
        test("An hour is a digit from 0 to 9, or 1 and a digit from 0 to 9, or 2 and a digit from 0 to 3.", () -> {
            for (int hour = 0; hour < 100; hour++) {
                int due = hour < 24 ? 1 : at(1);
                reads(hour + ":7;", due, "0-" + hour + ":7;", hour < 24 ? 1 : at(3), "0:7;" + hour + ":7;", hour < 24 ? 2 : at(5));
            }
            for (int hour = 0; hour < 24; hour++) {
                HeatPumpPlant x = made();
                loaded(x, hour + ":7;");
                for (int other = 0; other < 24; other++) {
                    c.due("outdoor(" + other + ") by " + hour, x.outdoor(other), other == hour ? 7 : 50);
                }
            }
            reads("00:1;", at(1), "01:1;", at(1), "09:1;", at(1), "100:1;", at(2), "190:1;", at(2), "230:1;", at(2), "0-00:1;", at(3),
                "0-05:1;", at(3), "0-100:1;", at(4), "10-240:1;", at(4), "0-230:1;", at(4));
        });
    }

    private void meaning() {
        test("An entry gives the outdoor temperature (the number, negative behind a minus sign) to the hour,", () -> {
            int[] numbers = {0, 1, 9, 10, 99, 100, 300, 400};
            for (int number : numbers) {
                HeatPumpPlant x = made();
                loaded(x, "5:" + number + ";");
                c.due("outdoor(5)", x.outdoor(5), number);
                c.due("outdoor(4)", x.outdoor(4), 50);
                c.due("outdoor(6)", x.outdoor(6), 50);
                if (number <= 300) {
                    loaded(x, "5:-" + number + ";");
                    c.due("outdoor(5)", x.outdoor(5), -number);
                }
            }
        });
        test("or to all hours from the first to the second one;", () -> {
            int[][] spans = {{0, 0}, {0, 23}, {23, 23}, {5, 5}, {9, 10}, {10, 19}, {0, 1}, {22, 23}, {19, 20}};
            for (int[] span : spans) {
                HeatPumpPlant x = made();
                c.due("loadWeather()", loaded(x, span[0] + "-" + span[1] + ":-7p;"), 1);
                for (int hour = 0; hour < 24; hour++) {
                    boolean inside = hour >= span[0] && hour <= span[1];
                    c.due("outdoor(" + hour + ")", x.outdoor(hour), inside ? -7 : 50);
                    c.due("tariff(" + hour + ")", x.tariff(hour), inside ? 2 : 1);
                }
            }
        });
        test("the letters c, n and p also give them the tariffs 0, 1 and 2.", () -> {
            HeatPumpPlant x = made();
            loaded(x, "0:1c;1:1n;2:1p;3:1;");
            for (int hour = 0; hour < 4; hour++) {
                c.due("tariff(" + hour + ")", x.tariff(hour), hour < 3 ? hour : 1);
            }
            loaded(x, "0-3:2;");
            for (int hour = 0; hour < 4; hour++) {
                c.due("tariff(" + hour + ") without a letter", x.tariff(hour), hour < 3 ? hour : 1);
                c.due("outdoor(" + hour + ")", x.outdoor(hour), 2);
            }
            loaded(x, "0-3:2n;");
            for (int hour = 0; hour < 4; hour++) {
                c.due("tariff(" + hour + ") by n", x.tariff(hour), 1);
            }
            loaded(x, "22-23:2c;");
            c.due("tariff(21)", x.tariff(21), 1);
            c.due("tariff(22)", x.tariff(22), 0);
            c.due("tariff(23)", x.tariff(23), 0);
        });
    }

    private void fault() {
        test("The fault of a text that is no weather sheet is the index of the first character that cannot stand at its place when "
            + "the text is read from left to right,", () -> {
                String whole = "12-13:-123c;";
                // No entry goes on with an x, wherever it stands.
                for (int i = 0; i <= whole.length(); i++) {
                    reads(whole.substring(0, i) + "x" + whole.substring(i), at(i));
                }
                reads("x1:1;x", at(0), "1:1;x2:y;", at(4), "1:1;2:y;", at(6), "25:1;", at(1), "1:999;2:x;", at(8), "9-1:1;x", at(6));
                StringBuilder full = new StringBuilder();
                for (int i = 0; i < 24; i++) {
                    full.append("1:1;");
                }
                reads(full + "1:1:", at(99), full + "1:x;", at(98), full + "1:1;", 25);
            });
        test("or the length of the text if it ends before an entry is complete.", () -> {
            String whole = "12-13:-123c;";
            for (int i = 1; i < whole.length(); i++) {
                reads(whole.substring(0, i), at(i), whole + whole.substring(0, i), at(12 + i));
            }
            reads("1:0", at(3), "2-2:0", at(5));
            StringBuilder full = new StringBuilder();
            for (int i = 0; i < 24; i++) {
                full.append("1:1;");
            }
            reads(full + "1", at(97), full + "1:", at(98), full + "1:1", at(99), full + "1:12", at(100));
        });
    }
}
