import java.util.Random;

/** Runs of seeded random calls, each answer compared with that of the reference. */
public final class ReferenceTests {
    private static final int CALLS = 500;
    private static final String SHEET_CHARACTERS = "0129-:c;";

    private final Checks checks;
    private final Random random;
    private final int style;
    private final String name;
    private final HeatPumpPlant x = new HeatPumpPlant();
    private final ReferencePlant r = new ReferencePlant();
    private int calls;

    private ReferenceTests(Checks checks, long seed) {
        this.checks = checks;
        random = new Random(seed);
        style = (int) (seed % 4);
        name = "seed " + seed + ", call ";
    }

    public static void main(String[] args) {
        Checks checks = new Checks();
        for (long seed = 1; seed <= 160; seed++) {
            new ReferenceTests(checks, seed).play();
        }
        for (int conductance = 0; conductance <= 100; conductance += 50) {
            new ReferenceTests(checks, 1000 + conductance).coolDown(conductance);
        }
        for (long seed = 2001; seed <= 2040; seed++) {
            new ReferenceTests(checks, seed).takeAnything();
        }
        shortSheets(checks, "", 5);
        changedSheets(checks);
        checks.end("ReferenceTests");
    }

    /** Every text of at most so many of the characters that a sheet knows. */
    private static void shortSheets(Checks checks, String begin, int more) {
        readBoth(checks, begin);
        for (int i = 0; more > 0 && i < SHEET_CHARACTERS.length(); i++) {
            shortSheets(checks, begin + SHEET_CHARACTERS.charAt(i), more - 1);
        }
    }

    /** Every change of one character in these sheets: left out, replaced, or with another one ahead of it. */
    private static void changedSheets(Checks checks) {
        for (String sheet : new String[] {"12-23:-300c;", "0:0n;9-10:400p;", "1-2:-7;3:45p;20:120;"}) {
            for (int at = 0; at <= sheet.length(); at++) {
                String begin = sheet.substring(0, at);
                String rest = sheet.substring(Math.min(sheet.length(), at + 1));
                readBoth(checks, begin);
                readBoth(checks, begin + rest);
                for (char code = 32; code <= 126; code++) {
                    readBoth(checks, begin + code + rest);
                    readBoth(checks, begin + code + sheet.substring(at));
                }
            }
        }
    }

    private static void readBoth(Checks checks, String sheet) {
        HeatPumpPlant x = new HeatPumpPlant();
        ReferencePlant r = new ReferencePlant();
        for (int i = 0; i < sheet.length(); i++) {
            x.type(sheet.charAt(i));
            r.type(sheet.charAt(i));
        }
        checks.due("loadWeather() of \"" + sheet + "\"", x.loadWeather(), r.loadWeather());
        checks.due("digest() behind \"" + sheet + "\"", x.digest(), r.digest());
    }

    /** Arguments of all sizes, for every call: none may throw, and the answers must be those of the reference. */
    private void takeAnything() {
        int[] sizes = {Integer.MIN_VALUE, Integer.MIN_VALUE + 1, -1000000007, -9999, -301, -1, 0, 1, 2, 3, 12, 16, 23, 24,
            100, 126, 300, 401, 700, 1440, 65536 + 7, 1000000007, Integer.MAX_VALUE - 1, Integer.MAX_VALUE};
        while (calls < CALLS - 130) {
            int a = sizes[random.nextInt(sizes.length)];
            int b = random.nextInt(3) == 0 ? near(-300, 600) : sizes[random.nextInt(sizes.length)];
            switch (random.nextInt(20)) {
                case 0: due("set(" + a + ", " + b + ")", x.set(a, b), r.set(a, b)); break;
                case 1: due("setting(" + a + ")", x.setting(a), r.setting(a)); break;
                case 2: due("setOutdoor(" + a + ", " + b + ")", x.setOutdoor(a, b), r.setOutdoor(a, b)); break;
                case 3: due("outdoor(" + a + ")", x.outdoor(a), r.outdoor(a)); break;
                case 4: due("setTariff(" + a + ", " + b + ")", x.setTariff(a, b), r.setTariff(a, b)); break;
                case 5: due("tariff(" + a + ")", x.tariff(a), r.tariff(a)); break;
                case 6: due("setPrice(" + a + ", " + b + ")", x.setPrice(a, b), r.setPrice(a, b)); break;
                case 7: due("demand(" + a + ")", x.demand(a), r.demand(a)); break;
                case 8: due("addPoint(" + a + ", " + b + ")", x.addPoint(a, b), r.addPoint(a, b)); break;
                case 9: due("removePoint(" + a + ")", x.removePoint(a), r.removePoint(a)); break;
                case 10: due("supply(" + a + ")", x.supply(a), r.supply(a)); break;
                case 11: due("target(" + a + ")", x.target(a), r.target(a)); break;
                case 12: due("fill(" + a + ", " + b + ")", x.fill(a, b), r.fill(a, b)); break;
                case 13: due("temperature(" + a + ")", x.temperature(a), r.temperature(a)); break;
                case 14: due("run(" + a + ")", x.run(a), r.run(a)); break;
                case 15: due("minutesWith(" + a + ")", x.minutesWith(a), r.minutesWith(a)); break;
                case 16: due("costIn(" + a + ")", x.costIn(a), r.costIn(a)); break;
                case 17: due("bestBoost(" + a + ")", x.bestBoost(a), r.bestBoost(a)); break;
                case 18: due("type(" + a + ")", x.type(a), r.type(a)); break;
                default: due("undo()", x.undo(), r.undo());
            }
            due("digest()", x.digest(), r.digest());
        }
        lookAtAll();
    }

    /** As far below 0 as it goes: defrosting in 20 of 21 minutes, until the time is up. */
    private void coolDown(int conductance) {
        int[][] settings = {{0, 0}, {7, 500}, {8, 0}, {9, 100}, {10, 1}, {11, 20}, {12, 20000}, {14, conductance}};
        for (int[] one : settings) {
            due("set(" + one[0] + ", " + one[1] + ")", x.set(one[0], one[1]), r.set(one[0], one[1]));
        }
        due("setOutdoor(3, -300)", x.setOutdoor(3, -300), r.setOutdoor(3, -300));
        due("fill(100, 0)", x.fill(100, 0), r.fill(100, 0));
        for (int i = 0; i < 70; i++) {
            int minutes = i < 69 ? 1440 : 640;
            due("run(" + minutes + ")", x.run(minutes), r.run(minutes));
            due("digest()", x.digest(), r.digest());
            due("costIn(30)", x.costIn(30), r.costIn(30));
        }
        checks.holds(name + "it is very cold", x.temperature(3) < -1000000);
        lookAtAll();
    }

    private void play() {
        while (calls < CALLS - 130) {
            int kind = random.nextInt(100);
            if (kind < 22) {
                changeSetting();
            } else if (kind < 34) {
                changeWeather();
            } else if (kind < 44) {
                changeCurve();
            } else if (kind < 50) {
                int capacity = near(100, style == 1 ? 300 : 5000);
                int temperature = near(0, 700);
                due("fill(" + capacity + ", " + temperature + ")", x.fill(capacity, temperature),
                        r.fill(capacity, temperature));
            } else if (kind < 74) {
                simulate();
            } else if (kind < 84) {
                ask();
            } else if (kind < 94) {
                readSheet();
            } else {
                due("undo()", x.undo(), r.undo());
            }
            due("digest()", x.digest(), r.digest());
        }
        lookAtAll();
    }

    private void due(String call, long got, long want) {
        calls++;
        checks.due(name + calls + ": " + call, got, want);
    }

    /** Mostly a value of the range, sometimes its edge, seldom one beyond it. */
    private int near(int least, int most) {
        switch (random.nextInt(12)) {
            case 0: return least;
            case 1: return most;
            case 2: return random.nextInt(4) == 0 ? least - 1 - random.nextInt(3) : least + 1;
            case 3: return random.nextInt(4) == 0 ? most + 1 + random.nextInt(3) : most - 1;
            default: return least + random.nextInt(most - least + 1);
        }
    }

    private void changeSetting() {
        int setting = near(0, 16);
        int[] range = ReferencePlant.RANGES[Math.max(0, Math.min(16, setting))];
        int least = range[0];
        int most = range[1];
        if (style == 1 && setting <= 1) {
            most = 5;
        } else if (style == 2 && (setting == 10 || setting == 11)) {
            most = 6;
        } else if (style == 3 && setting == 7) {
            most = 4000;
        }
        int value = random.nextInt(8) == 0 ? range[2] : near(least, most);
        due("set(" + setting + ", " + value + ")", x.set(setting, value), r.set(setting, value));
    }

    private void changeWeather() {
        int hour = near(0, 23);
        switch (random.nextInt(4)) {
            case 0: {
                int tariff = near(0, 2);
                int price = near(0, 1000);
                due("setPrice(" + tariff + ", " + price + ")", x.setPrice(tariff, price), r.setPrice(tariff, price));
                return;
            }
            case 1: {
                int tariff = near(0, 2);
                due("setTariff(" + hour + ", " + tariff + ")", x.setTariff(hour, tariff), r.setTariff(hour, tariff));
                return;
            }
            default: {
                int temperature = near(-300, style == 0 ? 400 : 100);
                due("setOutdoor(" + hour + ", " + temperature + ")", x.setOutdoor(hour, temperature),
                        r.setOutdoor(hour, temperature));
            }
        }
    }

    private void changeCurve() {
        int outdoor = near(-4, 5) * 70 + random.nextInt(2);
        if (random.nextInt(3) > 0) {
            int supply = near(150, 600);
            due("addPoint(" + outdoor + ", " + supply + ")", x.addPoint(outdoor, supply), r.addPoint(outdoor, supply));
        } else {
            int which = random.nextInt(4) == 0 ? (random.nextBoolean() ? -150 : 200) : outdoor;
            due("removePoint(" + which + ")", x.removePoint(which), r.removePoint(which));
        }
        int at = near(-300, 400);
        due("supply(" + at + ")", x.supply(at), r.supply(at));
    }

    private void simulate() {
        int minutes = random.nextInt(6) == 0 ? near(1, 1440) : 1 + random.nextInt(style == 1 ? 20 : 200);
        due("run(" + minutes + ")", x.run(minutes), r.run(minutes));
        checks.dueDouble(name + ++calls + ": meanPercentage()", x.meanPercentage(), r.meanPercentage());
    }

    private void ask() {
        switch (random.nextInt(4)) {
            case 0: {
                int minutes = near(1, 360);
                due("bestBoost(" + minutes + ")", x.bestBoost(minutes), r.bestBoost(minutes));
                return;
            }
            case 1: {
                int minutes = near(1, 720);
                due("costIn(" + minutes + ")", x.costIn(minutes), r.costIn(minutes));
                return;
            }
            default: due("nextSwitch()", x.nextSwitch(), r.nextSwitch());
        }
    }

    private void readSheet() {
        if (random.nextInt(3) > 0) {
            due("clearText()", x.clearText(), r.clearText());
        }
        String sheet = entry();
        if (random.nextInt(4) == 0) {
            sheet += entry();
        }
        if (random.nextInt(3) == 0) {
            int place = random.nextInt(sheet.length() + 1);
            char other = "0123456789-:;cnp x".charAt(random.nextInt(18));
            sheet = sheet.substring(0, place) + other + sheet.substring(Math.min(sheet.length(), place + random.nextInt(2)));
        }
        for (int i = 0; i < sheet.length(); i++) {
            due("type(" + (int) sheet.charAt(i) + ")", x.type(sheet.charAt(i)), r.type(sheet.charAt(i)));
        }
        if (random.nextInt(8) == 0) {
            int code = near(32, 126);
            due("type(" + code + ")", x.type(code), r.type(code));
        }
        due("loadWeather()", x.loadWeather(), r.loadWeather());
    }

    private String entry() {
        StringBuilder b = new StringBuilder();
        int first = random.nextInt(24);
        b.append(first);
        if (random.nextBoolean()) {
            b.append('-').append(random.nextInt(5) == 0 ? random.nextInt(24) : first + random.nextInt(24 - first));
        }
        b.append(':').append(random.nextInt(12) == 0 ? random.nextInt(1999) - 999 : random.nextInt(701) - 300);
        if (random.nextBoolean()) {
            b.append("cnp".charAt(random.nextInt(3)));
        }
        return b.append(';').toString();
    }

    private void lookAtAll() {
        for (int i = -1; i <= 17; i++) due("setting(" + i + ")", x.setting(i), r.setting(i));
        for (int i = -1; i <= 24; i += 5) {
            due("outdoor(" + i + ")", x.outdoor(i), r.outdoor(i));
            due("tariff(" + i + ")", x.tariff(i), r.tariff(i));
            due("demand(" + i + ")", x.demand(i), r.demand(i));
            due("target(" + i + ")", x.target(i), r.target(i));
        }
        for (int i = -1; i <= 4; i++) due("temperature(" + i + ")", x.temperature(i), r.temperature(i));
        for (int i = -1; i <= 12; i++) due("minutesWith(" + i + ")", x.minutesWith(i), r.minutesWith(i));
        due("stored()", x.stored(), r.stored());
        due("time()", x.time(), r.time());
        due("pump()", x.pump(), r.pump());
        due("reason()", x.reason(), r.reason());
        due("startsLastHour()", x.startsLastHour(), r.startsLastHour());
        due("starts()", x.starts(), r.starts());
        due("defrosts()", x.defrosts(), r.defrosts());
        due("frost()", x.frost(), r.frost());
        due("produced()", x.produced(), r.produced());
        due("defrostHeat()", x.defrostHeat(), r.defrostHeat());
        due("drawn()", x.drawn(), r.drawn());
        due("unmet()", x.unmet(), r.unmet());
        due("lost()", x.lost(), r.lost());
        due("electricity()", x.electricity(), r.electricity());
        due("cost()", x.cost(), r.cost());
        for (int i = 4; i >= 0; i--) due("undo()", x.undo(), r.undo());
        due("digest()", x.digest(), r.digest());
    }
}
