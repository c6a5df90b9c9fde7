/** A test for each promise, with answers that were worked out from the document by hand. */
public final class PromiseTests extends PlantTest {
    private PromiseTests() {
        super(new Checks());
    }

    public static void main(String[] args) {
        PromiseTests tests = new PromiseTests();
        tests.newObject();
        tests.settings();
        tests.weatherAndTariffs();
        tests.prices();
        tests.demandOfAnHour();
        tests.curve();
        tests.supplyAndTarget();
        tests.buffer();
        tests.firstMinute();
        tests.runAndTime();
        tests.reasonsWhileOn();
        tests.reasonsWhileOff();
        tests.protections();
        tests.switchingMinutes();
        tests.startsOfTheLastHour();
        tests.defrosting();
        tests.heatAndPercentage();
        tests.roundingOfElectricity();
        tests.frostEdges();
        tests.drawing();
        tests.losses();
        tests.risingAndConduction();
        tests.hoursOfTheDay();
        tests.meanPercentage();
        tests.costIn();
        tests.nextSwitch();
        tests.bestBoost();
        tests.questionsBeyondTheEnd();
        tests.typing();
        tests.weatherSheets();
        tests.faultsOfSheets();
        tests.impossibleSheets();
        tests.undoing();
        tests.changesThatAreRecorded();
        tests.digest();
        tests.c.end("PromiseTests");
    }

    private void newObject() {
        HeatPumpPlant x = made();
        for (int i = 0; i < 17; i++) {
            c.due("setting(" + i + ")", x.setting(i), FIRST[i]);
        }
        for (int hour = 0; hour < 24; hour++) {
            c.due("outdoor(" + hour + ")", x.outdoor(hour), 50);
            c.due("tariff(" + hour + ")", x.tariff(hour), 1);
            c.due("demand(" + hour + ")", x.demand(hour), 2250);
            c.due("target(" + hour + ")", x.target(hour), 335);
        }
        for (int layer = 0; layer < 4; layer++) {
            c.due("temperature(" + layer + ")", x.temperature(layer), 300);
        }
        for (int reason = 0; reason < 12; reason++) {
            c.due("minutesWith(" + reason + ")", x.minutesWith(reason), 0);
        }
        c.due("stored()", x.stored(), 840000);
        c.due("time()", x.time(), 0);
        c.due("pump()", x.pump(), HeatPumpPlant.OFF);
        c.due("reason()", x.reason(), NONE);
        c.due("startsLastHour()", x.startsLastHour(), 0);
        c.due("starts()", x.starts(), 0);
        c.due("defrosts()", x.defrosts(), 0);
        c.due("frost()", x.frost(), 0);
        c.due("produced()", x.produced(), 0);
        c.due("defrostHeat()", x.defrostHeat(), 0);
        c.due("drawn()", x.drawn(), 0);
        c.due("unmet()", x.unmet(), 0);
        c.due("lost()", x.lost(), 0);
        c.due("electricity()", x.electricity(), 0);
        c.due("cost()", x.cost(), 0);
        c.dueDouble("meanPercentage()", x.meanPercentage(), 0.0);
        c.due("clearText()", x.clearText(), 0);
        c.due("undo()", x.undo(), STATE);
    }

    private void settings() {
        for (int i = 0; i < 17; i++) {
            HeatPumpPlant x = made();
            long before = x.digest();
            refused("set(" + i + ", least - 1)", x, before, x.set(i, LEAST[i] - 1), BAD);
            refused("set(" + i + ", most + 1)", x, before, x.set(i, MOST[i] + 1), BAD);
            for (int far : FAR) {
                refused("set(" + i + ", " + far + ")", x, before, x.set(i, far), BAD);
            }
            c.due("set(" + i + ", least)", x.set(i, LEAST[i]), 1);
            c.due("setting(" + i + ")", x.setting(i), LEAST[i]);
            c.due("set(" + i + ", most)", x.set(i, MOST[i]), 2);
            c.due("setting(" + i + ")", x.setting(i), MOST[i]);
            for (int other = 0; other < 17; other++) {
                c.due("setting(" + other + ")", x.setting(other), other == i ? MOST[i] : FIRST[other]);
            }
        }
        HeatPumpPlant x = made();
        long before = x.digest();
        for (int no : new int[] {-1, 17, Integer.MIN_VALUE, Integer.MAX_VALUE}) {
            refused("set(" + no + ", 10)", x, before, x.set(no, 10), BAD);
            c.due("setting(" + no + ")", x.setting(no), NONE);
        }
        for (int want : new int[] {1, 2, 3, 4, 4, 4}) {
            c.due("set(0, 10)", x.set(MIN_ON, 10), want);
        }
    }

    private void weatherAndTariffs() {
        HeatPumpPlant x = made();
        long before = x.digest();
        for (int no : new int[] {-1, 24, Integer.MIN_VALUE, Integer.MAX_VALUE}) {
            refused("setOutdoor(" + no + ", 0)", x, before, x.setOutdoor(no, 0), BAD);
            refused("setTariff(" + no + ", 0)", x, before, x.setTariff(no, 0), BAD);
            c.due("outdoor(" + no + ")", x.outdoor(no), NONE);
            c.due("tariff(" + no + ")", x.tariff(no), NONE);
            c.due("demand(" + no + ")", x.demand(no), NONE);
            c.due("target(" + no + ")", x.target(no), NONE);
        }
        for (int bad : new int[] {-301, 401, Integer.MIN_VALUE, Integer.MAX_VALUE}) {
            refused("setOutdoor(0, " + bad + ")", x, before, x.setOutdoor(0, bad), BAD);
        }
        for (int bad : new int[] {-1, 3, Integer.MIN_VALUE, Integer.MAX_VALUE}) {
            refused("setTariff(0, " + bad + ")", x, before, x.setTariff(0, bad), BAD);
        }
        c.due("setOutdoor(0, -300)", x.setOutdoor(0, -300), 1);
        c.due("setOutdoor(23, 400)", x.setOutdoor(23, 400), 2);
        c.due("setTariff(0, 0)", x.setTariff(0, 0), 3);
        c.due("setTariff(23, 2)", x.setTariff(23, 2), 4);
        c.due("setOutdoor(11, 7)", x.setOutdoor(11, 7), 4);
        c.due("setTariff(12, 2)", x.setTariff(12, 2), 4);
        for (int hour = 0; hour < 24; hour++) {
            c.due("outdoor(" + hour + ")", x.outdoor(hour), hour == 0 ? -300 : hour == 23 ? 400 : hour == 11 ? 7 : 50);
            c.due("tariff(" + hour + ")", x.tariff(hour), hour == 0 ? 0 : hour == 23 || hour == 12 ? 2 : 1);
        }
    }

    private void prices() {
        HeatPumpPlant x = made();
        long before = x.digest();
        for (int no : new int[] {-1, 3, Integer.MIN_VALUE, Integer.MAX_VALUE}) {
            refused("setPrice(" + no + ", 1)", x, before, x.setPrice(no, 1), BAD);
        }
        for (int bad : new int[] {-1, 1001, Integer.MIN_VALUE, Integer.MAX_VALUE}) {
            refused("setPrice(0, " + bad + ")", x, before, x.setPrice(0, bad), BAD);
        }
        // The first minute of a new plant takes 1734 watt-minutes.
        c.due("costIn(1) when normal", x.costIn(1), 1734 * 20);
        x.setTariff(0, 2);
        x.set(COMFORT, 500);
        c.due("costIn(1) when peak", x.costIn(1), 1734 * 40);
        x.setTariff(0, 0);
        c.due("costIn(1) when cheap", x.costIn(1), 1734 * 10);
        x = made();
        c.due("setPrice(0, 1000)", x.setPrice(0, 1000), 1);
        c.due("setPrice(1, 0)", x.setPrice(1, 0), 2);
        c.due("setPrice(2, 3)", x.setPrice(2, 3), 3);
        c.due("costIn(1) for nothing", x.costIn(1), 0);
        x.setTariff(0, 0);
        c.due("costIn(1) when cheap", x.costIn(1), 1734 * 1000);
        x.setTariff(0, 2);
        x.set(COMFORT, 301);
        c.due("costIn(1) when peak", x.costIn(1), 1734 * 3);
    }

    private void demandOfAnHour() {
        HeatPumpPlant x = made();
        x.setOutdoor(3, 201);
        c.due("demand(3) above the room", x.demand(3), 0);
        x.setOutdoor(3, 200);
        c.due("demand(3) at the room", x.demand(3), 0);
        x.setOutdoor(3, 199);
        c.due("demand(3) below the room", x.demand(3), 15);
        x.set(LOSS, 7);
        x.set(ROOM, 202);
        c.due("demand(3) rounded down", x.demand(3), 2);
        x.set(LOSS, 1000);
        x.set(ROOM, 300);
        x.setOutdoor(3, -300);
        c.due("demand(3) at most", x.demand(3), 60000);
        x.setOutdoor(3, 400);
        c.due("demand(3) at least", x.demand(3), 0);
    }

    private void curve() {
        HeatPumpPlant x = made();
        long before = x.digest();
        for (int bad : new int[] {-301, 401, Integer.MIN_VALUE, Integer.MAX_VALUE}) {
            refused("addPoint(" + bad + ", 300)", x, before, x.addPoint(bad, 300), BAD);
            refused("removePoint(" + bad + ")", x, before, x.removePoint(bad), BAD);
        }
        for (int bad : new int[] {149, 601, Integer.MIN_VALUE, Integer.MAX_VALUE}) {
            refused("addPoint(0, " + bad + ")", x, before, x.addPoint(0, bad), BAD);
        }
        c.due("addPoint(400, 150)", x.addPoint(400, 150), 3);
        c.due("addPoint(-300, 600)", x.addPoint(-300, 600), 4);
        c.due("addPoint(0, 300)", x.addPoint(0, 300), 5);
        c.due("addPoint(1, 310)", x.addPoint(1, 310), 6);
        before = x.digest();
        refused("addPoint(2, 300)", x, before, x.addPoint(2, 300), FULL);
        refused("addPoint(2, 149)", x, before, x.addPoint(2, 149), BAD);
        refused("addPoint(401, 300)", x, before, x.addPoint(401, 300), BAD);
        refused("removePoint(2)", x, before, x.removePoint(2), BAD);
        int[][] points = {{-300, 600}, {-150, 450}, {0, 300}, {1, 310}, {200, 250}, {400, 150}};
        for (int[] point : points) {
            c.due("supply(" + point[0] + ")", x.supply(point[0]), point[1]);
        }
        c.due("addPoint(1, 320)", x.addPoint(1, 320), 6);
        c.due("supply(1)", x.supply(1), 320);
        for (int i = 0; i < 5; i++) {
            c.due("removePoint(" + points[i][0] + ")", x.removePoint(points[i][0]), 5 - i);
            c.due("removePoint(" + points[i][0] + ")", x.removePoint(points[i][0]), BAD);
            c.due("supply(" + points[i + 1][0] + ")", x.supply(points[i + 1][0]), i == 2 ? 320 : points[i + 1][1]);
            c.due("supply(-300)", x.supply(-300), i == 2 ? 320 : points[i + 1][1]);
        }
        before = x.digest();
        refused("removePoint(0)", x, before, x.removePoint(0), BAD);
        refused("removePoint(400)", x, before, x.removePoint(400), STATE);
        c.due("supply(400)", x.supply(400), 150);
        c.due("addPoint(-300, 200)", x.addPoint(-300, 200), 2);
        c.due("removePoint(400) of the warmest", x.removePoint(400), 1);
        c.due("removePoint(400) once more", x.removePoint(400), BAD);
        c.due("addPoint(400, 160)", x.addPoint(400, 160), 2);
        c.due("supply(-300)", x.supply(-300), 200);
    }

    private void supplyAndTarget() {
        HeatPumpPlant x = made();
        for (int bad : new int[] {-301, 401, Integer.MIN_VALUE, Integer.MAX_VALUE}) {
            c.due("supply(" + bad + ")", x.supply(bad), NONE);
        }
        int[][] pairs = {{-300, 450}, {-151, 450}, {-150, 450}, {-149, 449}, {-148, 448}, {0, 364}, {50, 335},
            {199, 250}, {198, 251}, {200, 250}, {201, 250}, {400, 250}};
        for (int[] pair : pairs) {
            c.due("supply(" + pair[0] + ")", x.supply(pair[0]), pair[1]);
        }
        x.addPoint(203, 260);
        c.due("supply(201) that rises", x.supply(201), 253);
        c.due("supply(202) that rises", x.supply(202), 256);
        x.set(BOOST, 7);
        x.setTariff(4, 0);
        x.setTariff(5, 2);
        c.due("target(3) normal", x.target(3), 335);
        c.due("target(4) cheap", x.target(4), 342);
        c.due("target(5) peak", x.target(5), 335);
        x.setOutdoor(4, -200);
        c.due("target(4) cheap", x.target(4), 457);
    }

    private void buffer() {
        HeatPumpPlant x = made();
        long before = x.digest();
        for (int bad : new int[] {-1, 99, 5001, Integer.MIN_VALUE, Integer.MAX_VALUE}) {
            refused("fill(" + bad + ", 300)", x, before, x.fill(bad, 300), BAD);
        }
        for (int bad : new int[] {-1, 701, Integer.MIN_VALUE, Integer.MAX_VALUE}) {
            refused("fill(700, " + bad + ")", x, before, x.fill(700, bad), BAD);
        }
        for (int no : new int[] {-1, 4, Integer.MIN_VALUE, Integer.MAX_VALUE}) {
            c.due("temperature(" + no + ")", x.temperature(no), NONE);
        }
        c.due("fill(100, 700)", x.fill(100, 700), 1);
        c.due("stored()", x.stored(), 280000);
        c.due("fill(5000, 0)", x.fill(5000, 0), 2);
        c.due("stored()", x.stored(), 0);
        c.due("fill(5000, 700)", x.fill(5000, 700), 3);
        c.due("stored()", x.stored(), 14000000);
        for (int layer = 0; layer < 4; layer++) {
            c.due("temperature(" + layer + ")", x.temperature(layer), 700);
        }
        x = made();
        x.run(1);
        c.due("fill(100, 200)", x.fill(100, 200), 2);
        c.due("drawn() stays", x.drawn(), 2250);
        c.due("produced() stays", x.produced(), 6500);
        c.due("time() stays", x.time(), 1);
        c.due("pump() stays", x.pump(), HeatPumpPlant.ON);
        c.due("reason() stays", x.reason(), 11);
    }

    private void firstMinute() {
        HeatPumpPlant x = made();
        c.due("run(1)", x.run(1), 1);
        c.due("reason()", x.reason(), 11);
        c.due("pump()", x.pump(), HeatPumpPlant.ON);
        c.due("produced()", x.produced(), 6500);
        c.due("electricity()", x.electricity(), 1734);
        c.due("cost()", x.cost(), 34680);
        c.due("drawn()", x.drawn(), 2250);
        c.due("unmet()", x.unmet(), 0);
        c.due("lost()", x.lost(), 80);
        c.due("defrostHeat()", x.defrostHeat(), 0);
        c.due("frost()", x.frost(), 0);
        c.due("stored()", x.stored(), 844170);
        int[] temperatures = {299, 299, 302, 304};
        for (int layer = 0; layer < 4; layer++) {
            c.due("temperature(" + layer + ")", x.temperature(layer), temperatures[layer]);
        }
        for (int reason = 0; reason < 12; reason++) {
            c.due("minutesWith(" + reason + ")", x.minutesWith(reason), reason == 11 ? 1 : 0);
        }
        c.due("run(1)", x.run(1), 0);
        c.due("reason()", x.reason(), 2);
    }

    private void runAndTime() {
        HeatPumpPlant x = made();
        long before = x.digest();
        for (int bad : new int[] {-1, 0, 1441, Integer.MIN_VALUE, Integer.MAX_VALUE}) {
            refused("run(" + bad + ")", x, before, x.run(bad), BAD);
        }
        for (int bad : new int[] {-1, 12, Integer.MIN_VALUE, Integer.MAX_VALUE}) {
            c.due("minutesWith(" + bad + ")", x.minutesWith(bad), BAD);
        }
        int starts = 0;
        for (int i = 1; i <= 69; i++) {
            starts += x.run(1440);
            c.due("time()", x.time(), 1440 * i);
            c.due("starts()", x.starts(), starts);
        }
        before = x.digest();
        refused("run(641)", x, before, x.run(641), FULL);
        refused("run(1440)", x, before, x.run(1440), FULL);
        refused("run(1441)", x, before, x.run(1441), BAD);
        c.holds("run(640) is possible", x.run(640) >= 0);
        c.due("time()", x.time(), 100000);
        before = x.digest();
        refused("run(1)", x, before, x.run(1), FULL);
        refused("run(0)", x, before, x.run(0), BAD);
        long minutes = 0;
        for (int reason = 0; reason < 12; reason++) {
            minutes += x.minutesWith(reason);
        }
        c.due("the minutes of all reasons", minutes, 100000);
        c.due("undo()", x.undo(), 3);
        c.due("time()", x.time(), 99360);
        // Two runs of 30 minutes are one run of 60.
        HeatPumpPlant whole = made();
        whole.run(90);
        HeatPumpPlant parts = made();
        parts.set(MIN_ON, 10);
        parts.undo();
        parts.run(45);
        parts.run(45);
        parts.undo();
        parts.run(45);
        parts.undo();
        parts.undo();
        parts.run(90);
        c.due("digest() of parts", parts.digest(), whole.digest());
    }

    /** On for a minute in a warm buffer; then what the rules 1 to 5 say at their edges. */
    private void reasonsWhileOn() {
        HeatPumpPlant x = with(MIN_ON, 0, LOSS, 1, INSULATION, 0);
        x.run(1);
        x.fill(700, 355);
        x.run(1);
        c.due("reason() at target + band", x.reason(), 3);
        c.due("pump()", x.pump(), HeatPumpPlant.OFF);
        c.due("electricity() does not rise", x.electricity(), 1734);
        x.undo();
        x.fill(700, 354);
        x.run(1);
        c.due("reason() below target + band", x.reason(), 5);
        c.due("pump()", x.pump(), HeatPumpPlant.ON);
        x = made();
        x.run(1);
        x.fill(700, 549);
        x.run(1);
        c.due("reason() below HIGHEST within MIN_ON", x.reason(), 2);
        x.fill(700, 550);
        x.run(1);
        c.due("reason() at HIGHEST within MIN_ON", x.reason(), 1);
        c.due("pump()", x.pump(), HeatPumpPlant.OFF);
        x.run(1);
        c.due("reason() when warm and off", x.reason(), 6);
        x = with(MIN_ON, 0, FROST_LIMIT, 1, FROST_BELOW, 100, HIGHEST, 300);
        x.fill(700, 299);
        x.run(1);
        c.due("frost()", x.frost(), 1);
        x.fill(700, 355);
        x.run(1);
        c.due("reason() with HIGHEST before the target", x.reason(), 1);
        x = with(MIN_ON, 0, FROST_LIMIT, 1, FROST_BELOW, 100);
        x.run(1);
        x.fill(700, 355);
        x.run(1);
        c.due("reason() with the target before frost", x.reason(), 3);
        x.undo();
        x.fill(700, 354);
        x.run(1);
        c.due("reason() with frost", x.reason(), 4);
    }

    private void reasonsWhileOff() {
        HeatPumpPlant x = made();
        x.fill(700, 315);
        x.run(1);
        c.due("reason() at target - band", x.reason(), 6);
        c.due("pump()", x.pump(), HeatPumpPlant.OFF);
        x.fill(700, 314);
        x.run(1);
        c.due("reason() below target - band", x.reason(), 11);
        x = with(BAND, 1, HIGHEST, 300);
        x.run(1);
        c.due("reason() at HIGHEST", x.reason(), 7);
        x.set(HIGHEST, 301);
        x.run(1);
        c.due("reason() below HIGHEST", x.reason(), 11);
        x = made();
        x.setTariff(0, 2);
        x.set(COMFORT, 300);
        x.run(1);
        c.due("reason() at COMFORT in the peak", x.reason(), 10);
        c.due("pump()", x.pump(), HeatPumpPlant.OFF);
        x.undo();
        x.set(COMFORT, 301);
        x.run(1);
        c.due("reason() below COMFORT in the peak", x.reason(), 11);
        for (int tariff = 0; tariff < 2; tariff++) {
            x = made();
            x.setTariff(0, tariff);
            x.set(COMFORT, 150);
            x.run(1);
            c.due("reason() above COMFORT without a peak", x.reason(), 11);
        }
        x = made();
        x.setTariff(0, 0);
        x.fill(700, 344);
        x.run(1);
        c.due("reason() below the boosted target - band", x.reason(), 11);
        x.undo();
        x.fill(700, 345);
        x.run(1);
        c.due("reason() at the boosted target - band", x.reason(), 6);
    }

    /** Rules 8, 9 and 10, in this order, and rule 7 before them. */
    private void protections() {
        HeatPumpPlant x = with(MIN_ON, 0, STARTS, 1, COMFORT, 150, MIN_OFF, 2);
        x.run(1);
        x.setTariff(0, 2);
        x.fill(700, 355);
        x.run(1);
        c.due("reason() of the stop", x.reason(), 3);
        x.fill(700, 300);
        x.set(HIGHEST, 300);
        x.run(1);
        c.due("reason() with HIGHEST first", x.reason(), 7);
        x.undo();
        x.set(HIGHEST, 550);
        x.run(1);
        c.due("reason() with MIN_OFF next", x.reason(), 8);
        x.run(1);
        c.due("reason() with STARTS next", x.reason(), 9);
        x.set(STARTS, 2);
        x.run(1);
        c.due("reason() with the peak next", x.reason(), 10);
        x.set(COMFORT, 301);
        x.run(1);
        c.due("reason() at last", x.reason(), 11);
    }

    /** MIN_ON and MIN_OFF at their edges; before the first start, the pump has been off for long. */
    private void switchingMinutes() {
        HeatPumpPlant x = with(MIN_ON, 3, MIN_OFF, 60);
        x.run(1);
        c.due("reason() of a new plant", x.reason(), 11);
        x.fill(5000, 400);
        x.run(2);
        c.due("reason() with 2 on-minutes", x.reason(), 2);
        c.due("minutesWith(2)", x.minutesWith(2), 2);
        x.run(1);
        c.due("reason() with 3 on-minutes", x.reason(), 3);
        x.fill(5000, 200);
        x.run(59);
        c.due("reason() with 59 off-minutes", x.reason(), 8);
        c.due("minutesWith(8)", x.minutesWith(8), 59);
        x.run(1);
        c.due("reason() with 60 off-minutes", x.reason(), 11);
        x.run(1);
        c.due("reason() with 1 on-minute", x.reason(), 2);
        x.run(2);
        c.due("reason() with 3 on-minutes, still cold", x.reason(), 5);
        x = with(MIN_ON, 0, MIN_OFF, 0);
        x.run(1);
        x.fill(5000, 400);
        x.run(1);
        c.due("reason() without MIN_ON", x.reason(), 3);
        x.fill(5000, 200);
        x.run(1);
        c.due("reason() without MIN_OFF", x.reason(), 11);
        c.due("starts()", x.starts(), 2);
    }

    private void startsOfTheLastHour() {
        HeatPumpPlant x = with(MIN_ON, 0, MIN_OFF, 0, STARTS, 1);
        c.due("run(1)", x.run(1), 1);
        c.due("startsLastHour()", x.startsLastHour(), 1);
        x.fill(5000, 400);
        x.run(1);
        x.fill(5000, 200);
        c.due("run(58)", x.run(58), 0);
        c.due("time()", x.time(), 60);
        c.due("startsLastHour() of the minutes 0 to 59", x.startsLastHour(), 1);
        c.due("minutesWith(9)", x.minutesWith(9), 58);
        c.due("run(1)", x.run(1), 0);
        c.due("reason() in minute 60", x.reason(), 9);
        c.due("startsLastHour() of the minutes 1 to 60", x.startsLastHour(), 0);
        c.due("run(1)", x.run(1), 1);
        c.due("reason() in minute 61", x.reason(), 11);
        c.due("startsLastHour()", x.startsLastHour(), 1);
        c.due("starts()", x.starts(), 2);
        c.due("undo()", x.undo(), 3);
        c.due("startsLastHour() again", x.startsLastHour(), 0);
        c.due("starts() again", x.starts(), 1);
        c.due("undo()", x.undo(), 2);
        c.due("startsLastHour() again", x.startsLastHour(), 1);
    }

    private void defrosting() {
        HeatPumpPlant x = with(MIN_ON, 0, FROST_LIMIT, 2, FROST_BELOW, 51, DEFROST_TIME, 3, INSULATION, 0);
        x.fill(5000, 250);
        int[] reasons = {11, 5, 4, 0, 0, 5, 5, 4, 0, 0, 5};
        int[] modes = {1, 1, 2, 2, 2, 1, 1, 2, 2, 2, 1};
        int[] frosts = {1, 2, 2, 2, 2, 1, 2, 2, 2, 2, 1};
        int[] defrosts = {0, 0, 1, 1, 1, 1, 1, 2, 2, 2, 2};
        int[] heats = {0, 0, 3000, 6000, 9000, 9000, 9000, 12000, 15000, 18000, 18000};
        for (int m = 0; m < reasons.length; m++) {
            long electricity = x.electricity();
            long stored = x.stored();
            long before = x.defrostHeat();
            x.run(1);
            c.due("reason() in minute " + m, x.reason(), reasons[m]);
            c.due("pump() behind minute " + m, x.pump(), modes[m]);
            c.due("frost() behind minute " + m, x.frost(), frosts[m]);
            c.due("defrosts() behind minute " + m, x.defrosts(), defrosts[m]);
            c.due("defrostHeat() behind minute " + m, x.defrostHeat(), heats[m]);
            if (modes[m] == 2) {
                c.due("electricity() of minute " + m, x.electricity() - electricity, 200);
                c.due("stored() behind minute " + m, x.stored(), stored - (x.defrostHeat() - before) - 2250);
            }
        }
        c.due("minutesWith(0)", x.minutesWith(0), 4);
        c.due("minutesWith(4)", x.minutesWith(4), 2);
        c.due("starts()", x.starts(), 1);
        x = with(MIN_ON, 4, FROST_LIMIT, 1, FROST_BELOW, 100, DEFROST_TIME, 20);
        x.run(4);
        c.due("frost() above its limit within MIN_ON", x.frost(), 4);
        c.due("reason() within MIN_ON", x.reason(), 2);
        x.run(1);
        c.due("reason() behind MIN_ON", x.reason(), 4);
        x.run(3);
        c.due("reason()", x.reason(), 0);
        x.set(DEFROST_TIME, 1);
        x.run(1);
        c.due("reason() when it has lasted longer than now allowed", x.reason(), 5);
        x.undo();
        x.set(MIN_ON, 60);
        x.run(1);
        c.due("reason() with the on-minutes of the defrosting", x.reason(), 2);
        x.undo();
        x.set(MIN_ON, 8);
        x.run(1);
        c.due("reason() with 8 on-minutes", x.reason(), 5);
        // From below 0 the buffer's energy can go on downwards.
        x = with(MIN_ON, 0, FROST_LIMIT, 1, FROST_BELOW, 100, DEFROST_POWER, 20000);
        x.fill(100, 0);
        x.run(2);
        c.due("pump()", x.pump(), HeatPumpPlant.DEFROSTING);
        c.holds("stored() can be negative", x.stored() < 0);
        c.holds("temperature(3) can be negative", x.temperature(3) < 0);
        c.due("unmet()", x.unmet(), 4500);
        // 20 of 21 minutes take 20000 from layer 3, to which 250 of the first 500 are left: -1198250 behind 64 minutes.
        x = with(MIN_ON, 0, FROST_LIMIT, 1, FROST_BELOW, 100, DEFROST_TIME, 20, DEFROST_POWER, 20000, POWER, 500);
        x.set(SLOPE, 0);
        x.set(CONDUCTANCE, 0);
        x.fill(100, 0);
        x.run(64);
        c.due("temperature(3) far below 0", x.temperature(3), -11983);
        c.due("temperature(2) above it", x.temperature(2), 0);
        c.due("stored() far below 0", x.stored(), -1198000);
        c.due("defrosts()", x.defrosts(), 3);
        c.due("lost() far below 0", x.lost(), 0);
        // From 0 degrees, at 495 percent, 500 need 102; later, at 700 percent, 72.
        c.due("electricity() far below 0", x.electricity(), 60 * 200 + 102 + 3 * 72);
    }

    private void heatAndPercentage() {
        // 6000 - (100 * 7) / 10 upwards is 5930; 350 + 5 * -1 = 345; 593000 / 345 = 1718.8..
        HeatPumpPlant x = made();
        x.setOutdoor(0, -7);
        x.run(1);
        c.due("produced() at -7", x.produced(), 5930);
        c.due("electricity() at -7", x.electricity(), 1719);
        // SLOPE * x = -33 * 7 = -231, div 10 is -24.
        x = with(SLOPE, 33);
        x.setOutdoor(0, -7);
        x.run(1);
        c.due("produced() rounded down", x.produced(), 5976);
        x = with(POWER, 500, SLOPE, 200);
        x.setOutdoor(0, -300);
        x.run(1);
        c.due("produced() at least", x.produced(), 500);
        // 350 - 150 = 200 percent.
        c.due("electricity()", x.electricity(), 250);
        // 350 + 25 - 4 * 29 = 259: 650000 / 259 = 2509.6..
        x = with(HIGHEST, 700, BAND, 1);
        x.addPoint(50, 600);
        x.fill(700, 598);
        x.run(1);
        c.due("electricity() at 598", x.electricity(), 2510);
        // 350 + 5 * -30 - 4 * 29 = 84, which is below 100.
        x = with(HIGHEST, 700, BAND, 1, SLOPE, 0);
        x.setOutdoor(0, -300);
        x.addPoint(-300, 600);
        x.fill(700, 598);
        x.run(1);
        c.due("electricity() at 100 percent", x.electricity(), 6000);
        // 350 + 5 * 15 - 4 * -30 = 545 percent: 600000 / 545 = 1100.9..
        x = with(SLOPE, 0);
        x.setOutdoor(0, 150);
        x.fill(100, 0);
        x.run(1);
        c.due("electricity() from 0 degrees", x.electricity(), 1101);
        // Only an energy below 0 makes more than 700 percent; 400 of the 20000 are conducted back at once.
        x = with(SLOPE, 0, MIN_ON, 0, DEFROST_POWER, 20000, DEFROST_TIME, 1);
        x.setOutdoor(0, 0);
        x.set(FROST_LIMIT, 1);
        x.addPoint(-300, 600);
        x.run(1);
        x.fill(100, 0);
        x.run(1);
        c.due("pump()", x.pump(), HeatPumpPlant.DEFROSTING);
        c.due("temperature(3)", x.temperature(3), -196);
        long before = x.electricity();
        x.setOutdoor(0, 350);
        x.addPoint(400, 600);
        x.run(1);
        // 350 + 5 * 35 - 4 * -50 = 725; 600000 / 700 = 857.1..
        c.due("electricity() at 700 percent", x.electricity() - before, 858);
        // 299 is 0.1 below 300, which counts for a whole degree: 350 + 25 + 4 = 379; 650000 / 379 = 1715.03..
        x = made();
        x.fill(700, 299);
        x.run(1);
        c.due("electricity() at 299", x.electricity(), 1716);
        // 350 - 5 * 5 = 325: 65000 / 325 is 200 exactly.
        x = with(POWER, 650, SLOPE, 0);
        x.setOutdoor(0, -50);
        x.run(1);
        c.due("electricity() without a rest", x.electricity(), 200);
    }

    /** 350 + 5 - 4 * -1 = 359, and 57800 is 161 * 359 + 1. */
    private void roundingOfElectricity() {
        HeatPumpPlant x = with(POWER, 578, SLOPE, 0, HIGHEST, 700);
        x.setOutdoor(0, 10);
        x.fill(700, 299);
        x.run(1);
        c.due("electricity() with a rest of 1", x.electricity(), 162);
    }

    private void frostEdges() {
        HeatPumpPlant x = with(FROST_BELOW, 50);
        x.run(5);
        c.due("frost() at FROST_BELOW", x.frost(), 0);
        x.setOutdoor(0, 49);
        x.run(5);
        c.due("frost() below FROST_BELOW", x.frost(), 5);
        x.fill(5000, 500);
        x.run(5);
        c.due("pump()", x.pump(), HeatPumpPlant.OFF);
        c.due("frost() stays while off", x.frost(), 5);
        x = with(MIN_ON, 0, FROST_LIMIT, 3, FROST_BELOW, 100);
        x.fill(5000, 250);
        x.run(3);
        c.due("frost()", x.frost(), 3);
        c.due("reason() below the limit", x.reason(), 5);
        x.run(1);
        c.due("reason() at the limit", x.reason(), 4);
    }

    private void drawing() {
        HeatPumpPlant x = with(INSULATION, 0);
        x.fill(100, 210);
        x.run(1);
        c.due("drawn() of 1000 usable", x.drawn(), 1000);
        c.due("unmet()", x.unmet(), 1250);
        x = with(INSULATION, 0);
        x.fill(100, 200);
        x.run(1);
        c.due("drawn() at 200", x.drawn(), 0);
        c.due("unmet() at 200", x.unmet(), 2250);
        x = with(INSULATION, 0);
        x.fill(100, 150);
        x.run(1);
        c.due("drawn() below 200", x.drawn(), 0);
        c.due("unmet() below 200", x.unmet(), 2250);
        c.due("stored() below 200", x.stored(), 60000 + 6500);
        x = with(INSULATION, 0, LOSS, 100, ROOM, 150);
        x.fill(100, 210);
        x.run(1);
        c.due("drawn() of a demand of 1000", x.drawn(), 1000);
        c.due("unmet()", x.unmet(), 0);
        x.run(1);
        c.due("drawn() goes on", x.drawn() + x.unmet(), 2000);
    }

    private void losses() {
        HeatPumpPlant x = with(LOSS, 1, ROOM, 100, INSULATION, 50);
        x.setOutdoor(0, 400);
        x.fill(700, 299);
        x.run(1);
        c.due("lost() of four layers", x.lost(), 4 * 495);
        c.due("stored()", x.stored(), 4 * 299 * 700 - 4 * 495);
        x = with(LOSS, 1, INSULATION, 3);
        x.setOutdoor(0, 400);
        x.fill(700, 329);
        x.run(1);
        c.due("lost() rounded down", x.lost(), 4 * 38);
        x = with(LOSS, 1, INSULATION, 50, HIGHEST, 300);
        x.setOutdoor(0, 400);
        x.addPoint(400, 150);
        x.fill(700, 199);
        x.run(1);
        c.due("lost() below 200", x.lost(), 0);
        c.due("pump()", x.pump(), HeatPumpPlant.OFF);
        x.fill(700, 201);
        x.run(1);
        c.due("lost() at 201", x.lost(), 20);
        x.set(INSULATION, 0);
        x.fill(700, 500);
        x.run(1);
        c.due("lost() without a leak", x.lost(), 20);
    }

    private void risingAndConduction() {
        // Layer 3 is heated from 20000 to 26500; 3 and 2 share: 23250 each; 2 and 1: 21625 each; 1: 20812, 0: 20813.
        HeatPumpPlant x = with(LOSS, 1, INSULATION, 0, CONDUCTANCE, 0, ROOM, 100);
        x.fill(100, 200);
        x.run(1);
        c.due("stored()", x.stored(), 86500);
        int[] temperatures = {208, 208, 216, 232};
        for (int layer = 0; layer < 4; layer++) {
            c.due("temperature(" + layer + ") risen", x.temperature(layer), temperatures[layer]);
        }
        // The odd one goes up: 40599 leaves 20299 in layer 3; layer 2 has 20300, of which it keeps 20150.
        x = with(LOSS, 1, INSULATION, 0, CONDUCTANCE, 0, ROOM, 100, POWER, 599, SLOPE, 0);
        x.fill(100, 200);
        x.run(1);
        int[] odd = {200, 200, 201, 202};
        for (int layer = 0; layer < 4; layer++) {
            c.due("temperature(" + layer + ") of an odd sum", x.temperature(layer), odd[layer]);
        }
        // 45 are drawn from the top, while the pump is off.
        x = with(LOSS, 450, INSULATION, 0, CONDUCTANCE, 100, HIGHEST, 300, ROOM, 300);
        x.setOutdoor(0, 299);
        x.fill(100, 400);
        x.run(1);
        c.due("drawn()", x.drawn(), 45);
        // 39955 is 399 and mixes with layer 1: 39978 and 39977. Layer 2 was asked before, and does not rise any more.
        int[] later = {399, 399, 400, 400};
        for (int layer = 0; layer < 4; layer++) {
            c.due("temperature(" + layer + ") mixed", x.temperature(layer), later[layer]);
        }
        c.due("pump()", x.pump(), HeatPumpPlant.OFF);
        // A defrosting cools layer 3 to 300: (400 - 300) * 37 div 10 = 370 are conducted to it.
        x = with(MIN_ON, 0, FROST_LIMIT, 1, FROST_BELOW, 100, DEFROST_POWER, 10000, INSULATION, 0, CONDUCTANCE, 37);
        x.addPoint(50, 600);
        x.set(ROOM, 100);
        x.set(LOSS, 1);
        x.run(1);
        x.set(ROOM, 100);
        x.setOutdoor(0, 99);
        x.addPoint(99, 600);
        x.fill(100, 400);
        x.run(1);
        c.due("reason()", x.reason(), 4);
        c.due("temperature(3) conducted", x.temperature(3), 303);
        c.due("temperature(2) conducted", x.temperature(2), 396);
        c.due("stored()", x.stored(), 150000);
        // From 303.7 it falls to 203.7; k = 1: (400 - 396) * 37 div 10 = 14; k = 2: (396 - 203) * 37 div 10 = 714.
        x.run(1);
        c.due("temperature(1)", x.temperature(1), 399);
        c.due("temperature(2)", x.temperature(2), 389);
        c.due("temperature(3)", x.temperature(3), 210);
        // Now k = 0: 1 * 37 div 10 = 3; k = 1: (399 - 389) * 37 div 10 = 37; k = 2: (389 - 110) * 37 div 10 = 1032.
        x.run(1);
        int[] last = {399, 399, 379, 121};
        for (int layer = 0; layer < 4; layer++) {
            c.due("temperature(" + layer + ") of all conductions", x.temperature(layer), last[layer]);
        }
        // 2000 a minute. Equal temperatures do not mix: 1502000, 1504000, 1503000 (of 1506000), 1504000, 1505000.
        x = with(LOSS, 1, INSULATION, 0, ROOM, 100, POWER, 2000, SLOPE, 0);
        x.setOutdoor(0, 100);
        x.addPoint(100, 600);
        x.fill(5000, 300);
        x.run(4);
        c.due("temperature(3) behind 4 minutes", x.temperature(3), 300);
        x.run(1);
        c.due("temperature(3) behind 5 minutes", x.temperature(3), 301);
        c.due("temperature(2) behind 5 minutes", x.temperature(2), 300);
    }

    private void hoursOfTheDay() {
        HeatPumpPlant x = with(POWER, 500, SLOPE, 0);
        for (int hour = 0; hour < 24; hour++) {
            x.setOutdoor(hour, 200 - hour);
            x.setTariff(hour, hour % 3);
        }
        for (int day = 0; day < 2; day++) {
            for (int hour = 0; hour < 24; hour++) {
                long before = x.drawn() + x.unmet();
                x.run(60);
                c.due("the demand of hour " + hour, x.drawn() + x.unmet() - before, 60L * (15 * hour));
            }
        }
        x = made();
        x.setOutdoor(1, 200);
        x.run(59);
        x.run(2);
        c.due("drawn() of an hour and a minute without demand", x.drawn() + x.unmet(), 60 * 2250);
        x.setPrice(1, 1);
        x.setPrice(2, 1000);
        x.setTariff(1, 2);
        x.setTariff(2, 1);
        x.setOutdoor(2, 200);
        x.run(59);
        c.due("drawn() of hour 2", x.drawn() + x.unmet(), 60 * 2250);
    }

    private void meanPercentage() {
        HeatPumpPlant x = made();
        x.run(1);
        c.dueDouble("meanPercentage()", x.meanPercentage(), 650000.0 / 1734.0);
        x.run(60);
        c.dueDouble("meanPercentage()", x.meanPercentage(), (double) x.produced() * 100.0 / (double) x.electricity());
        c.dueDouble("meanPercentage() of the document's run", x.meanPercentage(), 362.35923737317427);
        x = made();
        x.fill(700, 500);
        x.run(10);
        c.dueDouble("meanPercentage() while off", x.meanPercentage(), 0.0);
    }

    private void costIn() {
        HeatPumpPlant x = made();
        long before = x.digest();
        for (int bad : new int[] {-1, 0, 721, Integer.MIN_VALUE, Integer.MAX_VALUE}) {
            refused("costIn(" + bad + ")", x, before, x.costIn(bad), BAD);
        }
        refused("costIn(1)", x, before, x.costIn(1), 34680);
        refused("costIn(61)", x, before, x.costIn(61), 1435040);
        x.run(61);
        c.due("cost()", x.cost(), 1435040);
        for (int minutes : new int[] {1, 59, 60, 719, 720}) {
            HeatPumpPlant other = made();
            other.run(61);
            other.run(minutes);
            c.due("costIn(" + minutes + ")", x.costIn(minutes), other.cost() - 1435040);
        }
        x = made();
        x.setPrice(1, 0);
        x.run(1);
        c.due("costIn(720) for nothing", x.costIn(720), 0);
    }

    private void nextSwitch() {
        HeatPumpPlant x = made();
        long before = x.digest();
        refused("nextSwitch()", x, before, x.nextSwitch(), 1);
        x.run(1);
        int minutes = x.nextSwitch();
        c.due("nextSwitch() is undisturbed", x.nextSwitch(), minutes);
        x.run(minutes - 1);
        c.due("pump() before it", x.pump(), HeatPumpPlant.ON);
        c.due("nextSwitch()", x.nextSwitch(), 1);
        x.run(1);
        c.due("pump() behind it", x.pump(), HeatPumpPlant.OFF);
        minutes = x.nextSwitch();
        x.run(minutes - 1);
        c.due("pump() before it", x.pump(), HeatPumpPlant.OFF);
        x.run(1);
        c.due("pump() behind it", x.pump(), HeatPumpPlant.ON);
        // No demand in the first 719 or 720 minutes, and a buffer that is warm enough for as long.
        x = with(INSULATION, 0, HIGHEST, 700);
        x.fill(700, 400);
        loaded(x, "0-11:400;12-23:-300;");
        c.due("nextSwitch() in minute 720", x.nextSwitch(), NONE);
        x.run(1);
        c.due("nextSwitch() in minute 720", x.nextSwitch(), 720);
        // A defrosting pump is not off.
        x = with(MIN_ON, 0, FROST_LIMIT, 1, FROST_BELOW, 100, POWER, 500);
        x.run(1);
        c.due("nextSwitch() of a pump that is too weak", x.nextSwitch(), NONE);
        x.run(1);
        c.due("pump()", x.pump(), HeatPumpPlant.DEFROSTING);
        c.due("nextSwitch() of a pump that is defrosting", x.nextSwitch(), NONE);
        x.fill(700, 500);
        c.due("nextSwitch() behind the defrosting", x.nextSwitch(), 6);
        // The on-minutes go into the question, and come back by undo().
        x = with(MIN_ON, 20);
        x.run(1);
        x.fill(5000, 400);
        c.due("nextSwitch() with 1 on-minute", x.nextSwitch(), 20);
        x.run(7);
        c.due("nextSwitch() with 8 on-minutes", x.nextSwitch(), 13);
        x.undo();
        x.run(19);
        c.due("reason() with 19 on-minutes", x.reason(), 2);
        x.run(1);
        c.due("reason() with 20 on-minutes", x.reason(), 3);
    }

    private void bestBoost() {
        HeatPumpPlant x = made();
        long before = x.digest();
        for (int bad : new int[] {-1, 0, 361, Integer.MIN_VALUE, Integer.MAX_VALUE}) {
            refused("bestBoost(" + bad + ")", x, before, x.bestBoost(bad), BAD);
        }
        refused("bestBoost(360) without a cheap hour", x, before, x.bestBoost(360), 0);
        refused("bestBoost(1)", x, before, x.bestBoost(1), 0);
        // Cheap now: from 335 - 20 + boost > 360 on, that is from 50 on, the pump starts, which costs.
        x.setTariff(0, 0);
        x.fill(700, 360);
        c.due("bestBoost(1) that saves", x.bestBoost(1), 0);
        x.setPrice(0, 0);
        c.due("bestBoost(1) for nothing", x.bestBoost(1), 0);
        // The top can only draw from the heat that was produced: the unmet heat decides before the cost.
        x = with(BAND, 100, MIN_ON, 0, INSULATION, 0, BOOST, 77);
        x.setTariff(0, 0);
        x.addPoint(50, 300);
        x.fill(100, 205);
        before = x.digest();
        // It starts from 10 on, for 205 is below 300 - 100 + 10.
        c.due("bestBoost(60)", x.bestBoost(60), 10);
        c.due("digest()", x.digest(), before);
        c.due("setting(5)", x.setting(BOOST), 77);
        c.due("bestBoost(60) by trial", bestByTrial(x, 60), 10);
        // Only with 150 the pump starts a minute earlier, for 295 is below 150 - 1 + 150, and the cold needs all heat.
        x = with(BAND, 1, LOSS, 1000, POWER, 20000);
        x.addPoint(-300, 150);
        x.setOutdoor(0, -300);
        x.setTariff(0, 0);
        x.fill(100, 295);
        c.due("bestBoost(1) that cannot help", x.bestBoost(1), 0);
        c.due("bestBoost(2) of the greatest", x.bestBoost(2), 150);
        // Heat from the cheap hour saves the dear one.
        x = made();
        x.setTariff(0, 0);
        x.setPrice(1, 1000);
        int best = x.bestBoost(120);
        c.holds("bestBoost(120) saves cost", best > 0);
        c.due("bestBoost(120)", best, bestByTrial(x, 120));
        c.due("unmet() of it", x.unmet(), 0);
    }

    private static int bestByTrial(HeatPumpPlant x, int minutes) {
        int own = x.setting(BOOST);
        int best = -1;
        long leastUnmet = 0;
        long leastCost = 0;
        for (int boost = 0; boost <= 150; boost += 10) {
            x.set(BOOST, boost);
            x.run(minutes);
            long unmet = x.unmet();
            long cost = x.cost();
            x.undo();
            x.undo();
            if (best < 0 || unmet < leastUnmet || unmet == leastUnmet && cost < leastCost) {
                best = boost;
                leastUnmet = unmet;
                leastCost = cost;
            }
        }
        return x.setting(BOOST) == own ? best : -1;
    }

    private void questionsBeyondTheEnd() {
        HeatPumpPlant x = made();
        for (int i = 0; i < 69; i++) {
            x.run(1440);
        }
        x.run(640);
        c.due("time()", x.time(), 100000);
        long before = x.digest();
        c.holds("costIn(720) at the end", x.costIn(720) > 0);
        c.holds("nextSwitch() at the end", x.nextSwitch() > 0);
        c.due("bestBoost(360) at the end", x.bestBoost(360), 0);
        c.due("digest()", x.digest(), before);
        c.due("time()", x.time(), 100000);
    }

    private void typing() {
        HeatPumpPlant x = made();
        long before = x.digest();
        for (int bad : new int[] {-1, 0, 31, 127, 65568, Integer.MIN_VALUE, Integer.MAX_VALUE}) {
            refused("type(" + bad + ")", x, before, x.type(bad), BAD);
        }
        c.due("type(32)", x.type(32), 1);
        c.due("type(126)", x.type(126), 2);
        for (int i = 3; i <= 100; i++) {
            c.due("type(48)", x.type(48), i);
        }
        before = x.digest();
        refused("type(48) into a full text", x, before, x.type(48), FULL);
        refused("type(31) into a full text", x, before, x.type(31), BAD);
        c.due("undo() has nothing of the text", x.undo(), STATE);
        c.due("clearText()", x.clearText(), 100);
        c.due("clearText()", x.clearText(), 0);
        c.due("type(49)", x.type(49), 1);
        x.run(1);
        x.type(58);
        c.due("undo()", x.undo(), 0);
        c.due("clearText() behind undo()", x.clearText(), 2);
    }

    private void weatherSheets() {
        HeatPumpPlant x = made();
        c.due("loadWeather() of nothing", x.loadWeather(), 0);
        c.due("undo()", x.undo(), 0);
        c.due("loadWeather()", loaded(x, "0:-300c;1:400n;2-4:0p;23:7;10-19:-12;"), 5);
        int[] outdoor = {-300, 400, 0, 0, 0, 50, 50, 50, 50, 50, -12, -12, -12, -12, -12, -12, -12, -12, -12, -12, 50,
            50, 50, 7};
        for (int hour = 0; hour < 24; hour++) {
            c.due("outdoor(" + hour + ")", x.outdoor(hour), outdoor[hour]);
            c.due("tariff(" + hour + ")", x.tariff(hour), hour == 0 ? 0 : hour >= 2 && hour <= 4 ? 2 : 1);
        }
        c.due("loadWeather() again: the text has stayed", x.loadWeather(), 5);
        c.due("clearText()", x.clearText(), 37);
        c.due("undo() of one change", x.undo(), 1);
        c.due("undo() of one change", x.undo(), 0);
        c.due("outdoor(0)", x.outdoor(0), 50);
        c.due("loadWeather() with a later entry", loaded(x, "0-23:100p;5-5:-0;5:1c;6:2;"), 4);
        c.due("outdoor(4)", x.outdoor(4), 100);
        c.due("outdoor(5)", x.outdoor(5), 1);
        c.due("outdoor(6)", x.outdoor(6), 2);
        c.due("tariff(5)", x.tariff(5), 0);
        c.due("tariff(6) of an earlier entry", x.tariff(6), 2);
        c.due("loadWeather() of 20-23", loaded(x, "20-23:99;"), 1);
        c.due("outdoor(19)", x.outdoor(19), 100);
        c.due("outdoor(20)", x.outdoor(20), 99);
        c.due("outdoor(23)", x.outdoor(23), 99);
        StringBuilder full = new StringBuilder();
        for (int i = 0; i < 25; i++) {
            full.append("9:").append(i % 10).append(';');
        }
        c.due("loadWeather() of 100 characters", loaded(x, full.toString()), 25);
        c.due("outdoor(9)", x.outdoor(9), 4);
    }

    private void faultsOfSheets() {
        String[] texts = {" ", "a", "-", ":", ";", "24:1;", "30:1;", "03:1;", "100:1;", "1", "12", "1-", "1-2", "1:",
            "1:-", "1:5", "1:5c", "1::", "1:c;", "1:-;", "1:--1;", "1:05;", "1:00;", "1:-01;", "1:1234;", "1:123c",
            "1:1cc;", "1:1c1;", "1:1;;", "1:1; 2:2;", "1:1;2", "1-2-3:1;", "1-24:1;", "1-:1;", "1:1d;", "1:1C;", "1:1.;",
            "2-3:0n", "2-09:0;", "1:+1;", "1:999;2:999;x", "5-3:1;1", "19:1;29:1;", "/:1;", "1:/;", "1:<;", "1:1:;"};
        int[] faults = {0, 0, 0, 0, 0, 1, 1, 1, 2, 1, 2, 2, 3, 2,
            3, 3, 4, 2, 2, 3, 3, 3, 3, 4, 5, 6,
            4, 4, 4, 4, 5, 3, 3, 2, 3, 3, 3,
            6, 3, 2, 12, 7, 6, 0, 2, 2, 3};
        for (int i = 0; i < texts.length; i++) {
            HeatPumpPlant x = made();
            write(x, texts[i]);
            long before = x.digest();
            refused("loadWeather() of " + texts[i], x, before, x.loadWeather(), -10 - faults[i]);
            c.due("undo()", x.undo(), STATE);
            c.due("outdoor(1)", x.outdoor(1), 50);
        }
        HeatPumpPlant x = made();
        c.due("loadWeather()", loaded(x, "1:1;1:1;"), 2);
        write(x, "1:1");
        c.due("loadWeather() of what is left of a longer text", x.loadWeather(), -13);
    }

    private void impossibleSheets() {
        String[] texts = {"0:401;", "0:-301;", "0:999;", "0:-999;", "5-4:0;", "23-0:0;", "1:7;2:500;", "1:500;2:7;",
            "9-8:1;8-9:1;"};
        for (String text : texts) {
            HeatPumpPlant x = made();
            write(x, text);
            long before = x.digest();
            refused("loadWeather() of " + text, x, before, x.loadWeather(), STATE);
            c.due("undo()", x.undo(), STATE);
        }
        HeatPumpPlant x = made();
        c.due("loadWeather()", loaded(x, "0:400;1:-300;2-2:-0;"), 3);
    }

    private void undoing() {
        HeatPumpPlant x = made();
        long[] digests = new long[7];
        x.setPrice(1, 7);
        for (int i = 0; i < 7; i++) {
            digests[i] = x.digest();
            if (i == 0) x.set(BAND, 30);
            if (i == 1) x.setOutdoor(0, -123);
            if (i == 2) x.setTariff(0, 0);
            if (i == 3) x.addPoint(-10, 380);
            if (i == 4) x.fill(350, 260);
            if (i == 5) x.run(77);
        }
        for (int i = 5; i >= 2; i--) {
            c.due("undo()", x.undo(), i - 2);
            // The digest holds the number of records, which is its last value.
            c.due("digest() of state " + i, x.digest(), digests[i] - Math.min(4, i + 1) + (i - 2));
        }
        c.due("undo() of too much", x.undo(), STATE);
        c.due("digest()", x.digest(), digests[2] - 3);
        x.setPrice(1, 9);
        c.due("undo()", x.undo(), 0);
        x.setTariff(0, 1);
        c.due("costIn(1) with the price from before", x.costIn(1) % 7, 0);
        // All that a minute knows comes back: the same run from there answers the same.
        x = with(MIN_ON, 0, MIN_OFF, 3, FROST_BELOW, 100, FROST_LIMIT, 4);
        x.fill(200, 290);
        x.run(37);
        x.run(200);
        long after = x.digest();
        double mean = x.meanPercentage();
        c.due("undo()", x.undo(), 3);
        x.run(200);
        c.due("digest() of the same run", x.digest(), after);
        c.dueDouble("meanPercentage() of the same run", x.meanPercentage(), mean);
    }

    private void changesThatAreRecorded() {
        HeatPumpPlant x = made();
        c.due("set that changes nothing", x.set(0, 10), 1);
        c.due("setOutdoor that changes nothing", x.setOutdoor(0, 50), 2);
        c.due("setTariff that changes nothing", x.setTariff(0, 1), 3);
        c.due("setPrice that changes nothing", x.setPrice(0, 10), 4);
        for (int i = 3; i >= 0; i--) {
            c.due("undo()", x.undo(), i);
        }
        x.addPoint(-150, 450);
        x.addPoint(0, 300);
        x.removePoint(0);
        x.loadWeather();
        c.due("undo() behind addPoint, removePoint and loadWeather", x.undo(), 3);
        x.undo();
        c.due("supply(0)", x.supply(0), 300);
        x.undo();
        x.undo();
        c.due("undo()", x.undo(), STATE);
        c.due("fill that changes nothing", x.fill(700, 300), 1);
        x.run(1);
        x.type(48);
        x.clearText();
        x.costIn(5);
        x.nextSwitch();
        x.bestBoost(5);
        x.digest();
        c.due("undo() behind the questions", x.undo(), 1);
        c.due("time()", x.time(), 0);
    }

    private void digest() {
        HeatPumpPlant x = made();
        c.due("digest()", x.digest(), digestOf(x, 0, 0));
        x.type(49);
        x.type(58);
        c.due("digest()", x.digest(), digestOf(x, 2, 0));
        c.due("clearText()", x.clearText(), 2);
        x = with(MIN_ON, 0, FROST_BELOW, 100, FROST_LIMIT, 4);
        loaded(x, "1-5:-12c;7:13p;");
        x.fill(200, 290);
        x.run(431);
        c.due("digest()", x.digest(), digestOf(x, 15, 4));
    }
}
