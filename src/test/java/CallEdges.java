/** The promises 1 to 33, 37 to 41: each call's arguments and answers. */
final class CallEdges extends Edges {
    private static final int[] NO_HOURS = {-1, 24, -24, 25, Integer.MIN_VALUE, Integer.MAX_VALUE};
    private static final int[] NO_OUTDOORS = {-301, 401, -9999, Integer.MIN_VALUE, Integer.MAX_VALUE};

    CallEdges(Checks checks, Document document) {
        super(checks, document);
    }

    @Override
    void all() {
        newObject();
        settings();
        outdoors();
        tariffs();
        prices();
        demand();
        addPoint();
        removePoint();
        supplyAndTarget();
        fill();
        layers();
        run();
        timeAndPump();
        reasons();
        starts();
        defrostsAndFrost();
        heats();
        losses();
        electricityAndCost();
        meanPercentage();
        typing();
        loadWeather();
        undo();
        digest();
    }

    private interface Change {
        int on(HeatPumpPlant x);
    }

    /** The answer of a change counts the recorded states up to 4, also behind undo(). */
    private void countsRecords(Change change) {
        HeatPumpPlant x = made();
        for (int due : new int[] {1, 2, 3, 4, 4, 4}) {
            c.due("the recorded states", change.on(x), due);
        }
        x.undo();
        x.undo();
        c.due("the recorded states behind undo()", change.on(x), 3);
        x = made();
        x.run(1);
        c.due("the recorded states, with another change", change.on(x), 2);
    }

    private void newObject() {
        section("Promise 1: A new object");
        only("`HeatPumpPlant()`:");
        test("Creates a plant with the first values, at the time 0;", () -> {
            HeatPumpPlant x = made();
            c.due("time()", x.time(), 0);
            for (int i = 0; i < 17; i++) {
                c.due("setting(" + i + ")", x.setting(i), FIRST[i]);
            }
            long[] zeros = {x.pump(), x.startsLastHour(), x.starts(), x.defrosts(), x.frost(), x.produced(), x.defrostHeat(),
                x.drawn(), x.unmet(), x.lost(), x.electricity(), x.cost(), x.clearText()};
            for (int i = 0; i < zeros.length; i++) {
                c.due("question " + i, zeros[i], 0);
            }
            // A plant knows nothing of another one.
            x.run(500);
            x.set(MIN_ON, 60);
            x.type(48);
            HeatPumpPlant other = made();
            c.due("time() of another", other.time(), 0);
            c.due("setting(0) of another", other.setting(0), 10);
            c.due("clearText() of another", other.clearText(), 0);
            c.due("digest() of another", other.digest(), digestOf(other, 0, 0));
        });
        test("no state is recorded.", () -> c.due("undo()", made().undo(), STATE));
    }

    private void settings() {
        section("Promise 2: set");
        only("`int set(int setting, int value)`:");
        test("Sets a setting.", () -> {
            for (int i = 0; i < 17; i++) {
                HeatPumpPlant x = made();
                x.set(i, MOST[i]);
                for (int other = 0; other < 17; other++) {
                    c.due("setting(" + other + ") behind set(" + i + ")", x.setting(other), other == i ? MOST[i] : FIRST[other]);
                }
            }
        });
        test("This is a change.", () -> {
            HeatPumpPlant x = made();
            x.set(LOSS, 1);
            c.due("undo()", x.undo(), 0);
            c.due("setting(16)", x.setting(LOSS), 150);
        });
        test("- `setting`: 0 to 16", () -> {
            HeatPumpPlant x = made();
            c.due("set(0, 10)", x.set(0, 10), 1);
            c.due("set(16, 10)", x.set(16, 10), 2);
            for (int no : new int[] {-1, 17, 32, Integer.MIN_VALUE, Integer.MAX_VALUE}) {
                c.due("set(" + no + ", 10)", x.set(no, 10), BAD);
            }
        });
        test("- `value`: a value in its range", () -> {
            for (int i = 0; i < 17; i++) {
                HeatPumpPlant x = made();
                c.due("set(" + i + ", its least)", x.set(i, LEAST[i]), 1);
                c.due("set(" + i + ", its greatest)", x.set(i, MOST[i]), 2);
                c.due("set(" + i + ", between)", x.set(i, (LEAST[i] + MOST[i]) / 2), 3);
                c.due("setting(" + i + ")", x.setting(i), (LEAST[i] + MOST[i]) / 2);
            }
        });
        test("Returns how many recorded states there are then;", () -> countsRecords(x -> x.set(MIN_ON, 7)));
        test("BAD if an argument is out of range.", () -> {
            for (int i = 0; i < 17; i++) {
                HeatPumpPlant x = made();
                long before = x.digest();
                refused("set(" + i + ", its least - 1)", x, before, x.set(i, LEAST[i] - 1), BAD);
                refused("set(" + i + ", its greatest + 1)", x, before, x.set(i, MOST[i] + 1), BAD);
                for (int far : FAR) {
                    refused("set(" + i + ", " + far + ")", x, before, x.set(i, far), BAD);
                    refused("set(" + far + ", " + FIRST[i] + ")", x, before, x.set(far, FIRST[i]), BAD);
                }
            }
        });
        section("Promise 3: setting");
        only("`int setting(int setting)`:");
        test("Returns a setting.", () -> c.due("setting(7)", made().setting(POWER), 6000));
        test("- `setting`: 0 to 16", () -> {
            c.due("setting(0)", made().setting(0), 10);
            c.due("setting(16)", made().setting(16), 150);
        });
        test("Returns its value;", () -> {
            HeatPumpPlant x = with(FROST_BELOW, -50);
            c.due("setting(9)", x.setting(FROST_BELOW), -50);
            x.undo();
            c.due("setting(9) behind undo()", x.setting(FROST_BELOW), 50);
        });
        test("NONE if there is no such setting.", () -> {
            for (int no : new int[] {-1, 17, 18, Integer.MIN_VALUE, Integer.MAX_VALUE}) {
                c.due("setting(" + no + ")", made().setting(no), NONE);
            }
        });
    }

    private void outdoors() {
        section("Promise 4: setOutdoor");
        only("`int setOutdoor(int hour, int temperature)`:");
        test("Sets an outdoor temperature.", () -> {
            HeatPumpPlant x = made();
            x.setOutdoor(7, -80);
            for (int hour = 0; hour < 24; hour++) {
                c.due("outdoor(" + hour + ")", x.outdoor(hour), hour == 7 ? -80 : 50);
            }
        });
        test("This is a change.", () -> {
            HeatPumpPlant x = made();
            x.setOutdoor(7, -80);
            c.due("undo()", x.undo(), 0);
            c.due("outdoor(7)", x.outdoor(7), 50);
        });
        test("- `hour`: 0 to 23", () -> {
            c.due("setOutdoor(0, 0)", made().setOutdoor(0, 0), 1);
            c.due("setOutdoor(23, 0)", made().setOutdoor(23, 0), 1);
        });
        test("- `temperature`: -300 to 400", () -> {
            HeatPumpPlant x = made();
            c.due("setOutdoor(5, -300)", x.setOutdoor(5, -300), 1);
            c.due("outdoor(5)", x.outdoor(5), -300);
            c.due("setOutdoor(5, 400)", x.setOutdoor(5, 400), 2);
            c.due("outdoor(5)", x.outdoor(5), 400);
        });
        test("Returns how many recorded states there are then;", () -> countsRecords(x -> x.setOutdoor(3, 0)));
        test("BAD if an argument is out of range.", () -> {
            HeatPumpPlant x = made();
            long before = x.digest();
            for (int no : NO_HOURS) {
                refused("setOutdoor(" + no + ", 0)", x, before, x.setOutdoor(no, 0), BAD);
            }
            for (int no : NO_OUTDOORS) {
                refused("setOutdoor(0, " + no + ")", x, before, x.setOutdoor(0, no), BAD);
            }
            refused("setOutdoor(24, 401)", x, before, x.setOutdoor(24, 401), BAD);
        });
        section("Promise 5: outdoor");
        only("`int outdoor(int hour)`:");
        test("Returns an outdoor temperature.", () -> c.due("outdoor(12)", made().outdoor(12), 50));
        test("- `hour`: 0 to 23", () -> {
            c.due("outdoor(0)", made().outdoor(0), 50);
            c.due("outdoor(23)", made().outdoor(23), 50);
        });
        test("Returns the temperature;", () -> {
            HeatPumpPlant x = made();
            x.setOutdoor(23, -1);
            c.due("outdoor(23)", x.outdoor(23), -1);
        });
        test("NONE if there is no such hour.", () -> {
            for (int no : NO_HOURS) {
                c.due("outdoor(" + no + ")", made().outdoor(no), NONE);
            }
        });
    }

    private void tariffs() {
        section("Promise 6: setTariff");
        only("`int setTariff(int hour, int tariff)`:");
        test("Sets a tariff.", () -> {
            HeatPumpPlant x = made();
            x.setTariff(7, 2);
            for (int hour = 0; hour < 24; hour++) {
                c.due("tariff(" + hour + ")", x.tariff(hour), hour == 7 ? 2 : 1);
            }
        });
        test("This is a change.", () -> {
            HeatPumpPlant x = made();
            x.setTariff(7, 2);
            c.due("undo()", x.undo(), 0);
            c.due("tariff(7)", x.tariff(7), 1);
        });
        test("- `hour`: 0 to 23", () -> {
            c.due("setTariff(0, 0)", made().setTariff(0, 0), 1);
            c.due("setTariff(23, 0)", made().setTariff(23, 0), 1);
        });
        test("- `tariff`: 0 to 2", () -> {
            HeatPumpPlant x = made();
            for (int tariff = 0; tariff < 3; tariff++) {
                c.due("setTariff(5, " + tariff + ")", x.setTariff(5, tariff), tariff + 1);
                c.due("tariff(5)", x.tariff(5), tariff);
            }
        });
        test("Returns how many recorded states there are then;", () -> countsRecords(x -> x.setTariff(3, 0)));
        test("BAD if an argument is out of range.", () -> {
            HeatPumpPlant x = made();
            long before = x.digest();
            for (int no : NO_HOURS) {
                refused("setTariff(" + no + ", 0)", x, before, x.setTariff(no, 0), BAD);
            }
            for (int no : new int[] {-1, 3, Integer.MIN_VALUE, Integer.MAX_VALUE}) {
                refused("setTariff(0, " + no + ")", x, before, x.setTariff(0, no), BAD);
            }
            refused("setTariff(24, 3)", x, before, x.setTariff(24, 3), BAD);
        });
        section("Promise 7: tariff");
        only("`int tariff(int hour)`:");
        test("Returns a tariff.", () -> c.due("tariff(12)", made().tariff(12), 1));
        test("- `hour`: 0 to 23", () -> {
            c.due("tariff(0)", made().tariff(0), 1);
            c.due("tariff(23)", made().tariff(23), 1);
        });
        test("Returns the tariff;", () -> {
            HeatPumpPlant x = made();
            x.setTariff(23, 0);
            c.due("tariff(23)", x.tariff(23), 0);
            c.due("tariff(22)", x.tariff(22), 1);
        });
        test("NONE if there is no such hour.", () -> {
            for (int no : NO_HOURS) {
                c.due("tariff(" + no + ")", made().tariff(no), NONE);
            }
        });
    }

    private void prices() {
        section("Promise 8: setPrice");
        only("`int setPrice(int tariff, int price)`:");
        // The first minute of a new plant takes 1734 watt-minutes.
        test("Sets the price of a tariff.", () -> {
            HeatPumpPlant x = made();
            x.setPrice(0, 1);
            x.setPrice(2, 3);
            c.due("costIn(1) of another tariff", x.costIn(1), 1734 * 20);
            x.setPrice(1, 2);
            c.due("costIn(1)", x.costIn(1), 1734 * 2);
            x.setTariff(0, 0);
            c.due("costIn(1) when cheap", x.costIn(1), 1734);
            x.setTariff(0, 2);
            x.set(COMFORT, 500);
            c.due("costIn(1) in the peak", x.costIn(1), 1734 * 3);
        });
        test("This is a change.", () -> {
            HeatPumpPlant x = made();
            x.setPrice(1, 2);
            c.due("undo()", x.undo(), 0);
            c.due("costIn(1)", x.costIn(1), 1734 * 20);
        });
        test("- `tariff`: 0 to 2", () -> {
            HeatPumpPlant x = made();
            for (int tariff = 0; tariff < 3; tariff++) {
                c.due("setPrice(" + tariff + ", 5)", x.setPrice(tariff, 5), tariff + 1);
            }
        });
        test("- `price`: 0 to 1000", () -> {
            HeatPumpPlant x = made();
            c.due("setPrice(1, 0)", x.setPrice(1, 0), 1);
            c.due("costIn(1)", x.costIn(1), 0);
            c.due("setPrice(1, 1000)", x.setPrice(1, 1000), 2);
            c.due("costIn(1)", x.costIn(1), 1734000);
        });
        test("Returns how many recorded states there are then;", () -> countsRecords(x -> x.setPrice(1, 0)));
        test("BAD if an argument is out of range.", () -> {
            HeatPumpPlant x = made();
            long before = x.digest();
            int[] bad = {-1, 3, 1001, Integer.MIN_VALUE, Integer.MAX_VALUE};
            for (int no : bad) {
                refused("setPrice(" + no + ", 1)", x, before, x.setPrice(no, 1), BAD);
                if (no != 3) {
                    refused("setPrice(1, " + no + ")", x, before, x.setPrice(1, no), BAD);
                }
            }
            c.due("costIn(1)", x.costIn(1), 1734 * 20);
        });
    }

    private void demand() {
        section("Promise 9: demand");
        only("`int demand(int hour)`:");
        test("Returns the demand of an hour.", () -> {
            HeatPumpPlant x = made();
            x.setOutdoor(6, 100);
            c.due("demand(6)", x.demand(6), 1500);
            c.due("demand(5)", x.demand(5), 2250);
            c.due("demand(7)", x.demand(7), 2250);
        });
        test("- `hour`: 0 to 23", () -> {
            c.due("demand(0)", made().demand(0), 2250);
            c.due("demand(23)", made().demand(23), 2250);
        });
        test("Returns the demand in watts;", () -> {
            HeatPumpPlant x = with(ROOM, 300, LOSS, 1000);
            x.setOutdoor(0, -300);
            x.setOutdoor(1, 300);
            x.setOutdoor(2, 301);
            c.due("demand(0)", x.demand(0), 60000);
            c.due("demand(1)", x.demand(1), 0);
            c.due("demand(2)", x.demand(2), 0);
        });
        test("NONE if there is no such hour.", () -> {
            for (int no : NO_HOURS) {
                c.due("demand(" + no + ")", made().demand(no), NONE);
            }
        });
    }

    private void addPoint() {
        section("Promise 10: addPoint");
        only("`int addPoint(int outdoor, int supply)`:");
        test("Adds a point to the heating curve,", () -> {
            HeatPumpPlant x = made();
            x.addPoint(300, 200);
            x.addPoint(-200, 500);
            x.addPoint(0, 400);
            int[][] due = {{-300, 500}, {-200, 500}, {-175, 475}, {-150, 450}, {-75, 425}, {0, 400}, {100, 325}, {200, 250},
                {250, 225}, {300, 200}, {400, 200}};
            for (int[] point : due) {
                c.due("supply(" + point[0] + ")", x.supply(point[0]), point[1]);
            }
        });
        test("in place of a point with the same outdoor temperature if there is one.", () -> {
            HeatPumpPlant x = made();
            c.due("addPoint(-150, 600)", x.addPoint(-150, 600), 2);
            c.due("supply(-150)", x.supply(-150), 600);
            c.due("addPoint(200, 150)", x.addPoint(200, 150), 2);
            c.due("supply(200)", x.supply(200), 150);
            c.due("supply(25)", x.supply(25), 375);
            x.addPoint(0, 300);
            c.due("addPoint(0, 310)", x.addPoint(0, 310), 3);
            c.due("supply(0)", x.supply(0), 310);
            c.due("removePoint(0)", x.removePoint(0), 2);
            c.due("removePoint(0)", x.removePoint(0), BAD);
        });
        test("This is a change.", () -> {
            HeatPumpPlant x = made();
            x.addPoint(-300, 600);
            c.due("undo()", x.undo(), 0);
            c.due("supply(-300)", x.supply(-300), 450);
            c.due("removePoint(-300)", x.removePoint(-300), BAD);
        });
        test("- `outdoor`: -300 to 400", () -> {
            HeatPumpPlant x = made();
            c.due("addPoint(-300, 600)", x.addPoint(-300, 600), 3);
            c.due("addPoint(400, 600)", x.addPoint(400, 600), 4);
        });
        test("- `supply`: 150 to 600", () -> {
            HeatPumpPlant x = made();
            c.due("addPoint(0, 150)", x.addPoint(0, 150), 3);
            c.due("addPoint(1, 600)", x.addPoint(1, 600), 4);
            c.due("supply(0)", x.supply(0), 150);
            c.due("supply(1)", x.supply(1), 600);
        });
        test("Returns how many points there are then;", () -> {
            HeatPumpPlant x = made();
            x.removePoint(200);
            x.setPrice(0, 1);
            x.setPrice(0, 1);
            x.setPrice(0, 1);
            for (int i = 2; i <= 6; i++) {
                c.due("addPoint(" + i + ", 300)", x.addPoint(i, 300), i);
                c.due("addPoint(" + i + ", 301)", x.addPoint(i, 301), i);
            }
        });
        test("BAD if an argument is out of range;", () -> {
            HeatPumpPlant x = made();
            long before = x.digest();
            for (int no : NO_OUTDOORS) {
                refused("addPoint(" + no + ", 300)", x, before, x.addPoint(no, 300), BAD);
            }
            for (int no : new int[] {149, 601, 0, -150, Integer.MIN_VALUE, Integer.MAX_VALUE}) {
                refused("addPoint(0, " + no + ")", x, before, x.addPoint(0, no), BAD);
                refused("addPoint(200, " + no + ")", x, before, x.addPoint(200, no), BAD);
            }
        });
        test("FULL if there are 6 points and none of them has this outdoor temperature.", () -> {
            HeatPumpPlant x = made();
            int[] points = {-150, 1, 2, 3, 4, 200};
            for (int i = 1; i <= 4; i++) {
                c.due("addPoint(" + i + ", 300)", x.addPoint(i, 300), i + 2);
            }
            long before = x.digest();
            for (int outdoor : new int[] {-300, -151, -149, 0, 5, 199, 201, 400}) {
                refused("addPoint(" + outdoor + ", 300)", x, before, x.addPoint(outdoor, 300), FULL);
            }
            for (int point : points) {
                c.due("addPoint(" + point + ", 400)", x.addPoint(point, 400), 6);
                c.due("supply(" + point + ")", x.supply(point), 400);
            }
            x.removePoint(3);
            c.due("addPoint(5, 300) to 5 points", x.addPoint(5, 300), 6);
        });
    }

    private void removePoint() {
        section("Promise 11: removePoint");
        only("`int removePoint(int outdoor)`:");
        test("Removes a point from the heating curve.", () -> {
            HeatPumpPlant x = made();
            x.addPoint(0, 600);
            x.addPoint(100, 150);
            c.due("removePoint(0), between", x.removePoint(0), 3);
            c.due("supply(-25), between 450 and 150", x.supply(-25), 300);
            c.due("removePoint(200), the warmest", x.removePoint(200), 2);
            c.due("supply(200)", x.supply(200), 150);
            c.due("removePoint(-150), the coldest", x.removePoint(-150), 1);
            c.due("supply(-150)", x.supply(-150), 150);
        });
        test("This is a change.", () -> {
            HeatPumpPlant x = made();
            x.removePoint(-150);
            c.due("undo()", x.undo(), 0);
            c.due("supply(-300)", x.supply(-300), 450);
            c.due("removePoint(-150)", x.removePoint(-150), 1);
        });
        test("- `outdoor`: its outdoor temperature", () -> {
            HeatPumpPlant x = made();
            x.addPoint(-300, 600);
            x.addPoint(400, 150);
            c.due("removePoint(-300)", x.removePoint(-300), 3);
            c.due("removePoint(400)", x.removePoint(400), 2);
        });
        test("Returns how many points there are then;", () -> {
            HeatPumpPlant x = made();
            for (int i = 1; i <= 4; i++) {
                x.addPoint(i, 300);
            }
            int[] points = {3, -150, 200, 1, 4};
            for (int i = 0; i < 5; i++) {
                c.due("removePoint(" + points[i] + ")", x.removePoint(points[i]), 5 - i);
            }
            c.due("removePoint(2)", x.removePoint(2), STATE);
        });
        test("BAD if there is no such point;", () -> {
            HeatPumpPlant x = made();
            long before = x.digest();
            for (int no : new int[] {-151, -149, 0, 199, 201, -300, 400}) {
                refused("removePoint(" + no + ")", x, before, x.removePoint(no), BAD);
            }
            for (int no : NO_OUTDOORS) {
                refused("removePoint(" + no + ")", x, before, x.removePoint(no), BAD);
            }
            x.removePoint(200);
            before = x.digest();
            refused("removePoint(200), which was removed", x, before, x.removePoint(200), BAD);
        });
        test("STATE if it is the only one.", () -> {
            for (int left : new int[] {-150, 200}) {
                HeatPumpPlant x = made();
                x.removePoint(50 - left);
                long before = x.digest();
                refused("removePoint(" + left + ")", x, before, x.removePoint(left), STATE);
                c.due("supply(0)", x.supply(0), left == 200 ? 250 : 450);
                x.addPoint(0, 300);
                c.due("removePoint(" + left + ") with another one", x.removePoint(left), 1);
            }
        });
    }

    private void supplyAndTarget() {
        section("Promise 12: supply");
        only("`int supply(int outdoor)`:");
        test("Returns the supply temperature at an outdoor temperature.", () -> c.due("supply(50)", made().supply(50), 335));
        test("- `outdoor`: -300 to 400", () -> {
            c.due("supply(-300)", made().supply(-300), 450);
            c.due("supply(400)", made().supply(400), 250);
        });
        test("Returns the supply temperature;", () -> {
            HeatPumpPlant x = made();
            // It is never rising, and by 200 div 350 at a time.
            int last = x.supply(-300);
            for (int outdoor = -299; outdoor <= 400; outdoor++) {
                int supply = x.supply(outdoor);
                c.holds("supply(" + outdoor + ") is at most a tenth lower", supply == last || supply == last - 1);
                last = supply;
            }
            c.due("supply(400)", last, 250);
        });
        test("NONE if outdoor is out of range.", () -> {
            for (int no : NO_OUTDOORS) {
                c.due("supply(" + no + ")", made().supply(no), NONE);
            }
        });
        section("Promise 13: target");
        only("`int target(int hour)`:");
        test("Returns the target of an hour.", () -> {
            HeatPumpPlant x = made();
            x.setOutdoor(6, 200);
            x.setTariff(7, 0);
            c.due("target(5)", x.target(5), 335);
            c.due("target(6)", x.target(6), 250);
            c.due("target(7)", x.target(7), 365);
        });
        test("- `hour`: 0 to 23", () -> {
            c.due("target(0)", made().target(0), 335);
            c.due("target(23)", made().target(23), 335);
        });
        test("Returns the target;", () -> {
            HeatPumpPlant x = with(BOOST, 150);
            x.setTariff(0, 0);
            x.setOutdoor(0, -300);
            x.addPoint(-300, 600);
            c.due("target(0) at most", x.target(0), 750);
            x.addPoint(-300, 150);
            x.set(BOOST, 0);
            c.due("target(0) at least", x.target(0), 150);
        });
        test("NONE if there is no such hour.", () -> {
            for (int no : NO_HOURS) {
                c.due("target(" + no + ")", made().target(no), NONE);
            }
        });
    }

    private void fill() {
        section("Promise 14: fill");
        only("`int fill(int capacity, int temperature)`:");
        test("Fills the buffer anew: all layers get the capacity and the energy capacity * temperature.", () -> {
            HeatPumpPlant x = running(POWER, 10000);
            temperatures(x, 212, 212, 225, 250);
            x.fill(123, 456);
            temperatures(x, 456, 456, 456, 456);
            c.due("stored()", x.stored(), 4 * 123 * 456);
            x.fill(5000, 0);
            temperatures(x, 0, 0, 0, 0);
            c.due("stored()", x.stored(), 0);
        });
        test("This is a change.", () -> {
            HeatPumpPlant x = running(POWER, 10000);
            long stored = x.stored();
            x.fill(123, 456);
            x.undo();
            c.due("stored()", x.stored(), stored);
            // With the capacity from before, too.
            temperatures(x, 212, 212, 225, 250);
        });
        test("The accounts stay.", () -> {
            HeatPumpPlant x = made();
            x.run(100);
            long[] before = {x.time(), x.pump(), x.reason(), x.starts(), x.startsLastHour(), x.produced(), x.drawn(), x.unmet(),
                x.lost(), x.electricity(), x.cost(), x.frost()};
            x.fill(100, 0);
            long[] after = {x.time(), x.pump(), x.reason(), x.starts(), x.startsLastHour(), x.produced(), x.drawn(), x.unmet(),
                x.lost(), x.electricity(), x.cost(), x.frost()};
            for (int i = 0; i < before.length; i++) {
                c.due("question " + i, after[i], before[i]);
            }
            x = defrosting(MIN_ON, 0);
            x.fill(700, 700);
            c.due("pump()", x.pump(), DEFROSTING);
            c.due("frost()", x.frost(), 1);
            c.due("defrostHeat()", x.defrostHeat(), 3000);
            c.due("defrosts()", x.defrosts(), 1);
        });
        test("- `capacity`: 100 to 5000", () -> {
            c.due("fill(100, 300)", made().fill(100, 300), 1);
            c.due("fill(5000, 300)", made().fill(5000, 300), 1);
        });
        test("- `temperature`: 0 to 700", () -> {
            HeatPumpPlant x = made();
            c.due("fill(700, 0)", x.fill(700, 0), 1);
            temperatures(x, 0, 0, 0, 0);
            c.due("fill(700, 700)", x.fill(700, 700), 2);
            temperatures(x, 700, 700, 700, 700);
        });
        test("Returns how many recorded states there are then;", () -> countsRecords(x -> x.fill(100, 300)));
        test("BAD if an argument is out of range.", () -> {
            HeatPumpPlant x = made();
            long before = x.digest();
            for (int no : new int[] {99, 5001, 0, -700, Integer.MIN_VALUE, Integer.MAX_VALUE}) {
                refused("fill(" + no + ", 300)", x, before, x.fill(no, 300), BAD);
            }
            for (int no : new int[] {-1, 701, Integer.MIN_VALUE, Integer.MAX_VALUE}) {
                refused("fill(700, " + no + ")", x, before, x.fill(700, no), BAD);
            }
            refused("fill(99, 701)", x, before, x.fill(99, 701), BAD);
        });
    }

    private void layers() {
        section("Promise 15: temperature");
        only("`int temperature(int layer)`:");
        test("Returns the temperature of a layer.", () -> temperatures(running(POWER, 10000), 212, 212, 225, 250));
        test("- `layer`: 0 to 3", () -> {
            c.due("temperature(0)", made().temperature(0), 300);
            c.due("temperature(3)", made().temperature(3), 300);
        });
        test("Returns its temperature,", () -> {
            HeatPumpPlant x = defrosting(DEFROST_POWER, 20000, DEFROST_TIME, 20);
            temperatures(x, 200, 200, 200, 0);
            x.run(19);
            temperatures(x, 200, 200, 200, -3800);
        });
        test("NONE if there is no such layer.", () -> {
            for (int no : new int[] {-1, 4, Integer.MIN_VALUE, Integer.MAX_VALUE}) {
                c.due("temperature(" + no + ")", made().temperature(no), NONE);
            }
        });
        section("Promise 16: stored");
        only("`long stored()`:");
        test("Returns the energy in the buffer.", () -> c.due("stored()", made().stored(), 840000));
        test("Returns the sum of the energies of all layers.", () -> {
            c.due("stored()", running(POWER, 9999).stored(), 89999);
            HeatPumpPlant x = defrosting(DEFROST_POWER, 20000, DEFROST_TIME, 20);
            x.run(4);
            c.due("stored() below 0", x.stored(), -20000);
            x.fill(5000, 700);
            c.due("stored() at most", x.stored(), 14000000);
        });
    }

    private void run() {
        section("Promise 17: run");
        only("`int run(int minutes)`:");
        test("Simulates some minutes.", () -> {
            HeatPumpPlant x = made();
            x.run(137);
            HeatPumpPlant twin = made();
            for (int i = 0; i < 137; i++) {
                twin.run(1);
            }
            for (int i = 0; i < 3; i++) {
                x.set(MIN_ON, 10);
            }
            c.due("digest() of 137 minutes one by one", twin.digest(), x.digest());
        });
        test("This is a change.", () -> {
            HeatPumpPlant x = made();
            long before = x.digest();
            x.run(1440);
            c.due("undo()", x.undo(), 0);
            c.due("digest()", x.digest(), before);
        });
        test("- `minutes`: 1 to 1440", () -> {
            HeatPumpPlant x = made();
            c.due("run(1)", x.run(1), 1);
            c.due("time()", x.time(), 1);
            c.holds("run(1440)", x.run(1440) >= 0);
            c.due("time()", x.time(), 1441);
        });
        test("Returns how often the pump was started in these minutes;", () -> {
            HeatPumpPlant x = made();
            c.due("run(1)", x.run(1), 1);
            c.due("run(1), of a pump that was started before", x.run(1), 0);
            x.fill(700, 400);
            c.due("run(30), stopped", x.run(30), 0);
            for (int i = 0; i < 20; i++) {
                int before = x.starts();
                int started = x.run(100);
                c.due("run(100)", started, x.starts() - before);
                c.due("minutesWith(11)", x.minutesWith(11), x.starts());
            }
            // With a limit of 1 in 60 minutes behind each start, it can be started in the minutes 0, 61, 122 and so on.
            x = calm(STARTS, 1, MIN_ON, 0, MIN_OFF, 0, ROOM, 300, LOSS, 1000);
            x.set(HIGHEST, 300);
            x.fill(100, 200);
            c.due("run(61)", x.run(61), 1);
            c.due("run(122)", x.run(122), 2);
        });
        test("BAD if minutes is out of range;", () -> {
            HeatPumpPlant x = made();
            long before = x.digest();
            for (int no : new int[] {0, -1, 1441, -1440, Integer.MIN_VALUE, Integer.MAX_VALUE}) {
                refused("run(" + no + ")", x, before, x.run(no), BAD);
            }
        });
        test("FULL if the time would be greater than 100000.", () -> {
            HeatPumpPlant x = made();
            runTo(x, 98561);
            long before = x.digest();
            refused("run(1440) to 100001", x, before, x.run(1440), FULL);
            c.holds("run(1439) to 100000", x.run(1439) >= 0);
            c.due("time()", x.time(), 100000);
            before = x.digest();
            refused("run(1) to 100001", x, before, x.run(1), FULL);
            refused("run(1440) to 101440", x, before, x.run(1440), FULL);
            c.due("undo()", x.undo(), 3);
            c.due("time()", x.time(), 98561);
            c.holds("run(1438) to 99999", x.run(1438) >= 0);
            before = x.digest();
            refused("run(2) to 100001", x, before, x.run(2), FULL);
            c.holds("run(1) to 100000", x.run(1) >= 0);
            c.due("time()", x.time(), 100000);
        });
    }

    private void timeAndPump() {
        section("Promise 18: time");
        only("`int time()`:");
        test("Returns the time.", () -> c.due("time()", made().time(), 0));
        test("Returns how many minutes have been simulated.", () -> {
            HeatPumpPlant x = made();
            x.run(59);
            x.run(2);
            c.due("time()", x.time(), 61);
            x.undo();
            c.due("time()", x.time(), 59);
            runTo(x, 100000);
            c.due("time()", x.time(), 100000);
        });
        section("Promise 19: pump");
        only("`int pump()`:");
        test("Returns the state of the pump.", () -> c.due("pump()", made().pump(), OFF));
        test("Returns OFF, ON or DEFROSTING, as it is behind the latest minute.", () -> {
            HeatPumpPlant x = calm(MIN_ON, 0, FROST_BELOW, 100, FROST_LIMIT, 1, DEFROST_TIME, 1);
            int[][] due = {{400, 6, OFF}, {200, 11, ON}, {200, 4, DEFROSTING}, {200, 5, ON}, {200, 4, DEFROSTING}, {400, 3, OFF}};
            for (int[] minute : due) {
                c.due("reason() at " + minute[0], reasonAt(x, minute[0]), minute[1]);
                c.due("pump() behind it", x.pump(), minute[2]);
                x.fill(100, 700);
                c.due("pump() behind fill, which is no minute", x.pump(), minute[2]);
            }
            x.undo();
            x.undo();
            c.due("pump() behind undo()", x.pump(), DEFROSTING);
        });
    }

    private void reasons() {
        section("Promise 20: reason");
        only("`int reason()`:");
        test("Returns the reason of the latest minute.", () -> {
            HeatPumpPlant x = calm(MIN_ON, 0);
            c.due("reason()", reasonAt(x, 400), 6);
            c.due("reason()", reasonAt(x, 200), 11);
            x.undo();
            c.due("reason() behind undo()", x.reason(), 6);
        });
        test("Returns 0 to 11;", () -> {
            c.due("reason() of a defrosting that goes on", reasonAt(defrosting(DEFROST_TIME, 5), 200), 0);
            c.due("reason() of a start", running().reason(), 11);
        });
        test("NONE if no minute has been simulated.", () -> {
            HeatPumpPlant x = made();
            c.due("reason() at first", x.reason(), NONE);
            x.fill(100, 200);
            x.costIn(5);
            x.nextSwitch();
            x.run(0);
            c.due("reason() without a minute", x.reason(), NONE);
            x.run(1);
            c.due("reason()", x.reason(), 11);
            x.undo();
            c.due("reason() behind undo()", x.reason(), NONE);
        });
        section("Promise 21: minutesWith");
        only("`int minutesWith(int reason)`:");
        test("Returns how many minutes had a reason.", () -> {
            HeatPumpPlant x = running();
            x.run(4);
            c.due("minutesWith(11)", x.minutesWith(11), 1);
            c.due("minutesWith(2)", x.minutesWith(2), 4);
        });
        test("- `reason`: 0 to 11", () -> {
            for (int reason = 0; reason < 12; reason++) {
                c.due("minutesWith(" + reason + ")", made().minutesWith(reason), 0);
            }
        });
        test("Returns the number of simulated minutes with this reason;", () -> {
            HeatPumpPlant x = made();
            runTo(x, 100000);
            long sum = 0;
            for (int reason = 0; reason < 12; reason++) {
                sum += x.minutesWith(reason);
            }
            c.due("the minutes of all reasons", sum, 100000);
            x = calm();
            x.fill(700, 400);
            x.run(1440);
            c.due("minutesWith(6)", x.minutesWith(6), 1440);
            x.undo();
            c.due("minutesWith(6) behind undo()", x.minutesWith(6), 0);
            x.costIn(720);
            c.due("minutesWith(6) behind a question", x.minutesWith(6), 0);
        });
        test("BAD if there is no such reason.", () -> {
            for (int no : new int[] {-1, 12, 13, Integer.MIN_VALUE, Integer.MAX_VALUE}) {
                c.due("minutesWith(" + no + ")", made().minutesWith(no), BAD);
            }
        });
    }

    private void starts() {
        section("Promise 22: startsLastHour");
        only("`int startsLastHour()`:");
        test("Returns how often the pump was started in the latest 60 simulated minutes.", () -> {
            HeatPumpPlant x = calm(MIN_ON, 0, MIN_OFF, 0, STARTS, 10);
            c.due("startsLastHour() at first", x.startsLastHour(), 0);
            // In the minutes 0, 2, .. 18.
            for (int i = 1; i <= 10; i++) {
                reasonAt(x, 200);
                c.due("startsLastHour()", x.startsLastHour(), i);
                reasonAt(x, 400);
                c.due("startsLastHour()", x.startsLastHour(), i);
            }
            for (int time = 21; time <= 82; time++) {
                x.run(1);
                int due = time <= 60 ? 10 : Math.max(0, 10 - (time - 59) / 2);
                c.due("startsLastHour() at the time " + time, x.startsLastHour(), due);
            }
        });
        test("Returns the number of starts in the minutes from the time minus 60 to the time minus 1.", () -> {
            HeatPumpPlant x = stopped();
            x.run(58);
            c.due("time()", x.time(), 60);
            c.due("startsLastHour(), minute 0 is the time minus 60", x.startsLastHour(), 1);
            x.run(1);
            c.due("startsLastHour(), minute 0 is the time minus 61", x.startsLastHour(), 0);
            x.undo();
            c.due("startsLastHour() behind undo()", x.startsLastHour(), 1);
            x = calm();
            x.fill(100, 400);
            x.run(1439);
            c.due("reason()", reasonAt(x, 200), 11);
            c.due("startsLastHour(), the start is the time minus 1", x.startsLastHour(), 1);
        });
        section("Promise 23: starts");
        only("`int starts()`:");
        test("Returns how often the pump has been started.", () -> {
            c.due("starts() at first", made().starts(), 0);
            c.due("starts()", running().starts(), 1);
        });
        test("Returns the number of starts in all simulated minutes.", () -> {
            HeatPumpPlant x = stopped(MIN_OFF, 0, MIN_ON, 0);
            for (int i = 2; i <= 5; i++) {
                x.run(60);
                reasonAt(x, 200);
                c.due("starts()", x.starts(), i);
                x.undo();
                c.due("starts() behind undo()", x.starts(), i - 1);
                x.run(1);
                reasonAt(x, 400);
                c.due("starts()", x.starts(), i);
            }
            x.nextSwitch();
            x.bestBoost(360);
            c.due("starts() behind questions", x.starts(), 5);
        });
    }

    private void defrostsAndFrost() {
        section("Promise 24: defrosts");
        only("`int defrosts()`:");
        test("Returns how often a defrosting has begun.", () -> {
            c.due("defrosts() at first", made().defrosts(), 0);
            c.due("defrosts()", defrosting().defrosts(), 1);
        });
        test("Returns the number of defrosts in all simulated minutes.", () -> {
            HeatPumpPlant x = defrosting(DEFROST_TIME, 1);
            x.fill(5000, 200);
            // It defrosts in every other minute.
            x.run(20);
            c.due("defrosts()", x.defrosts(), 11);
            c.due("minutesWith(4)", x.minutesWith(4), 11);
            c.due("minutesWith(0)", x.minutesWith(0), 0);
            x.undo();
            c.due("defrosts() behind undo()", x.defrosts(), 1);
        });
        section("Promise 25: frost");
        only("`int frost()`:");
        test("Returns the frost.", () -> {
            c.due("frost() at first", made().frost(), 0);
            c.due("frost()", running(FROST_BELOW, 100).frost(), 1);
        });
        test("Returns the frost as it is behind the latest minute.", () -> {
            HeatPumpPlant x = running(FROST_BELOW, 100, MIN_ON, 60);
            x.fill(5000, 200);
            x.run(58);
            c.due("frost(), above its limit within MIN_ON", x.frost(), 59);
            x.run(1);
            c.due("frost()", x.frost(), 60);
            x.set(MIN_ON, 0);
            x.run(1);
            c.due("frost() when the defrosting begins", x.frost(), 60);
            x.run(5);
            c.due("frost() while it goes on", x.frost(), 60);
            x.set(FROST_BELOW, -50);
            x.run(1);
            c.due("frost() when it is over", x.frost(), 0);
            x.undo();
            c.due("frost() behind undo()", x.frost(), 60);
            x.fill(100, 600);
            c.due("reason() of a stop", reasonAt(x, 600), 1);
            c.due("frost() when it is over by a stop", x.frost(), 0);
        });
    }

    private void heats() {
        section("Promise 26: produced");
        only("`long produced()`:");
        test("Returns the produced heat.", () -> c.due("produced()", running(POWER, 7777).produced(), 7777));
        test("Returns the account.", () -> {
            HeatPumpPlant x = running(MIN_ON, 0, POWER, 1000);
            c.due("produced() at first", made().produced(), 0);
            x.run(9);
            c.due("produced()", x.produced(), 10000);
            x.fill(100, 600);
            x.run(9);
            c.due("produced() while OFF", x.produced(), 10000);
            // 21600 a minute, of the 22000 that are asked for: it is never warm enough, and comes beyond 2147483647.
            x = with(POWER, 20000, SLOPE, 200, ROOM, 300, LOSS, 1000);
            loaded(x, "0-23:80;");
            x.fill(700, 200);
            runTo(x, 100000);
            c.due("starts()", x.starts(), 1);
            c.due("produced() in 100000 minutes", x.produced(), 21600L * 100000);
        });
        section("Promise 27: defrostHeat");
        only("`long defrostHeat()`:");
        test("Returns the defrost heat.", () -> c.due("defrostHeat()", defrosting(DEFROST_POWER, 777).defrostHeat(), 777));
        test("Returns the account.", () -> {
            HeatPumpPlant x = defrosting(DEFROST_TIME, 6, DEFROST_POWER, 20000);
            c.due("defrostHeat() at first", made().defrostHeat(), 0);
            x.run(5);
            c.due("defrostHeat() of 6 minutes", x.defrostHeat(), 6 * 20000);
            x.run(1);
            c.due("defrostHeat() when it is over", x.defrostHeat(), 6 * 20000);
            x.run(1);
            c.due("defrostHeat() of the next one", x.defrostHeat(), 7 * 20000);
            x.undo();
            c.due("defrostHeat() behind undo()", x.defrostHeat(), 6 * 20000);
        });
        section("Promise 28: drawn");
        only("`long drawn()`:");
        test("Returns the drawn heat.", () -> {
            HeatPumpPlant x = made();
            x.run(1);
            c.due("drawn()", x.drawn(), 2250);
        });
        test("Returns the account.", () -> {
            HeatPumpPlant x = made();
            c.due("drawn() at first", x.drawn(), 0);
            x.fill(5000, 600);
            x.run(60);
            c.due("drawn() of an hour", x.drawn(), 60 * 2250);
            x.fill(5000, 100);
            x.run(1);
            c.due("drawn() when there is nothing", x.drawn(), 60 * 2250);
            x.undo();
            x.undo();
            x.undo();
            c.due("drawn() behind undo()", x.drawn(), 0);
        });
        section("Promise 29: unmet");
        only("`long unmet()`:");
        test("Returns the unmet heat.", () -> {
            HeatPumpPlant x = made();
            x.fill(100, 200);
            x.run(1);
            c.due("unmet()", x.unmet(), 2250);
        });
        test("Returns the account.", () -> {
            HeatPumpPlant x = made();
            c.due("unmet() at first", x.unmet(), 0);
            x.fill(5000, 600);
            x.run(60);
            c.due("unmet() when there is enough", x.unmet(), 0);
            // 60000 a minute, of which nothing can be met: beyond 2147483647.
            x = with(ROOM, 300, LOSS, 1000, POWER, 500, SLOPE, 0);
            loaded(x, "0-23:-300;");
            x.fill(5000, 0);
            runTo(x, 40000);
            c.due("unmet() and drawn()", x.unmet() + x.drawn(), 60000L * 40000);
            c.holds("unmet() is great", x.unmet() > 2147483647L);
        });
    }

    private void losses() {
        section("Promise 30: lost");
        only("`long lost()`:");
        test("Returns the losses.", () -> {
            HeatPumpPlant x = made();
            x.run(1);
            // 20 in layers 1 and 2, 19 in layer 0, which has given 2250, and 21 in layer 3, which got 6500.
            c.due("lost()", x.lost(), 80);
        });
        test("Returns the account.", () -> {
            HeatPumpPlant x = calm(INSULATION, 50);
            c.due("lost() at first", x.lost(), 0);
            x.fill(5000, 700);
            x.run(1);
            c.due("lost() of a minute", x.lost(), 4 * 2500);
            // Each layer has 2500 of 5000 less: 699, and 699 * 5 - 1000.
            x.run(1);
            c.due("lost() of two minutes", x.lost(), 4 * 2500 + 4 * 2495);
            x.undo();
            c.due("lost() behind undo()", x.lost(), 4 * 2500);
            x.set(INSULATION, 0);
            x.run(60);
            c.due("lost() without losses", x.lost(), 4 * 2500);
        });
    }

    private void electricityAndCost() {
        section("Promise 31: electricity");
        only("`long electricity()`:");
        test("Returns the electricity.", () -> {
            HeatPumpPlant x = made();
            x.run(1);
            c.due("electricity()", x.electricity(), 1734);
        });
        test("Returns the account.", () -> {
            HeatPumpPlant x = calm(POWER, 3950, MIN_ON, 0);
            x.addPoint(95, 400);
            c.due("electricity() at first", x.electricity(), 0);
            for (int i = 1; i <= 5; i++) {
                x.fill(700, 300);
                x.run(1);
                c.due("electricity()", x.electricity(), 1000 * i);
            }
            x.fill(700, 500);
            x.run(60);
            c.due("electricity() while OFF", x.electricity(), 5000);
            x.undo();
            x.undo();
            x.undo();
            c.due("electricity() behind undo()", x.electricity(), 4000);
        });
        section("Promise 32: cost");
        only("`long cost()`:");
        test("Returns the cost.", () -> {
            HeatPumpPlant x = made();
            x.run(1);
            c.due("cost()", x.cost(), 34680);
        });
        test("Returns the account.", () -> {
            HeatPumpPlant x = calm(POWER, 3950, MIN_ON, 0, COMFORT, 500);
            x.addPoint(95, 400);
            c.due("cost() at first", x.cost(), 0);
            long due = 0;
            for (int tariff = 0; tariff < 3; tariff++) {
                x.setTariff(0, tariff);
                x.fill(700, 300);
                x.run(1);
                due += 1000 * (10L << tariff);
                c.due("cost() with tariff " + tariff, x.cost(), due);
            }
            // What has been paid is paid.
            x.setPrice(0, 0);
            x.setPrice(2, 1000);
            c.due("cost() behind setPrice", x.cost(), due);
            // At least 6000 * 1000 a minute for 1440 minutes and more: beyond 2147483647.
            x = with(SLOPE, 0, ROOM, 300, LOSS, 1000, POWER, 20000, HIGHEST, 700);
            loaded(x, "0-23:-300;");
            x.setPrice(1, 1000);
            x.set(FROST_LIMIT, 600);
            x.run(300);
            c.due("cost() of 5 hours", x.cost(), x.electricity() * 1000);
            c.holds("cost() is great", x.cost() > 2147483647L);
        });
    }

    private void meanPercentage() {
        section("Promise 33: meanPercentage");
        only("`double meanPercentage()`:");
        test("Returns the mean percentage of the pump.", () -> {
            HeatPumpPlant x = calm(POWER, 3950);
            x.addPoint(95, 400);
            x.run(1);
            c.dueDouble("meanPercentage()", x.meanPercentage(), 395.0);
        });
        test("Returns the produced heat, converted to double, times 100.0, divided by the electricity, converted to double;", () -> {
            HeatPumpPlant x = made();
            x.run(1);
            c.dueDouble("meanPercentage()", x.meanPercentage(), 6500.0 * 100.0 / 1734.0);
            for (int i = 0; i < 20; i++) {
                x.run(77);
                double due = (double) x.produced() * 100.0 / (double) x.electricity();
                c.dueDouble("meanPercentage()", x.meanPercentage(), due);
            }
            // The electricity of a defrosting counts, too: 6000 watt-minutes of heat for 1380 and 200.
            c.dueDouble("meanPercentage() with a defrosting", defrosting().meanPercentage(), 600000.0 / 1580.0);
        });
        test("0.0 if the electricity is 0.", () -> {
            HeatPumpPlant x = made();
            c.dueDouble("meanPercentage() at first", x.meanPercentage(), 0.0);
            x.fill(700, 600);
            x.run(60);
            c.dueDouble("meanPercentage() while OFF", x.meanPercentage(), 0.0);
            x.fill(700, 200);
            x.run(1);
            c.holds("meanPercentage() while ON", x.meanPercentage() > 0.0);
            x.undo();
            c.dueDouble("meanPercentage() behind undo()", x.meanPercentage(), 0.0);
        });
    }

    private void typing() {
        section("Promise 37: type");
        only("`int type(int code)`:");
        test("Appends a character to the text.", () -> {
            HeatPumpPlant x = made();
            for (char one : "7:-80c;".toCharArray()) {
                x.type(one);
            }
            c.due("loadWeather()", x.loadWeather(), 1);
            c.due("outdoor(7)", x.outdoor(7), -80);
            x.type('8');
            c.due("loadWeather()", x.loadWeather(), -18);
        });
        test("- `code`: its code, 32 to 126", () -> {
            HeatPumpPlant x = made();
            c.due("type(32)", x.type(32), 1);
            c.due("type(126)", x.type(126), 2);
        });
        test("Returns the length of the text then;", () -> {
            HeatPumpPlant x = made();
            for (int i = 1; i <= 100; i++) {
                c.due("type(" + (26 + i) % 95 + 32 + ")", x.type((26 + i) % 95 + 32), i);
            }
            x.clearText();
            c.due("type(32) behind clearText()", x.type(32), 1);
        });
        test("BAD if code is out of range;", () -> {
            HeatPumpPlant x = made();
            long before = x.digest();
            for (int no : new int[] {31, 127, 0, -1, 160, 256 + 48, 65536 + 48, -48, Integer.MIN_VALUE, Integer.MAX_VALUE}) {
                refused("type(" + no + ")", x, before, x.type(no), BAD);
            }
            c.due("type(48)", x.type(48), 1);
        });
        test("FULL if the text has 100 characters.", () -> {
            HeatPumpPlant x = made();
            for (int i = 1; i <= 99; i++) {
                x.type(48);
            }
            c.due("type(48) as the 100th", x.type(48), 100);
            long before = x.digest();
            refused("type(48) as the 101st", x, before, x.type(48), FULL);
            refused("type(126) as the 101st", x, before, x.type(126), FULL);
            c.due("clearText()", x.clearText(), 100);
        });
        section("Promise 38: clearText");
        only("`int clearText()`:");
        test("Empties the text.", () -> {
            HeatPumpPlant x = made();
            write(x, "1:1;x");
            x.clearText();
            c.due("loadWeather() of nothing", x.loadWeather(), 0);
            write(x, "2");
            c.due("loadWeather() of nothing but the new one", x.loadWeather(), -11);
        });
        test("Returns the length that it had.", () -> {
            HeatPumpPlant x = made();
            c.due("clearText() of nothing", x.clearText(), 0);
            x.type(48);
            c.due("clearText()", x.clearText(), 1);
            c.due("clearText() once more", x.clearText(), 0);
            for (int i = 0; i < 105; i++) {
                x.type(48);
            }
            c.due("clearText() of a full text", x.clearText(), 100);
        });
    }

    private void loadWeather() {
        section("Promise 39: loadWeather");
        only("`int loadWeather()`:");
        test("Reads the text as a weather sheet, whose entries are carried out from left to right (a later entry counts for an "
            + "hour of several entries).", () -> {
                HeatPumpPlant x = made();
                c.due("loadWeather()", loaded(x, "0-9:10c;5-14:20;7:30p;"), 3);
                int[] outdoor = {10, 10, 10, 10, 10, 20, 20, 30, 20, 20, 20, 20, 20, 20, 20, 50};
                int[] tariff = {0, 0, 0, 0, 0, 0, 0, 2, 0, 0, 1, 1, 1, 1, 1, 1};
                for (int hour = 0; hour < 16; hour++) {
                    c.due("outdoor(" + hour + ")", x.outdoor(hour), outdoor[hour]);
                    c.due("tariff(" + hour + ")", x.tariff(hour), tariff[hour]);
                }
                loaded(x, "7:30p;5-14:20;0-9:10c;");
                c.due("outdoor(7) of the last", x.outdoor(7), 10);
                c.due("tariff(7) of the last", x.tariff(7), 0);
            });
        test("This is one change.", () -> {
            HeatPumpPlant x = made();
            loaded(x, "0:1;1:2c;2-23:3p;");
            c.due("undo()", x.undo(), 0);
            for (int hour = 0; hour < 24; hour++) {
                c.due("outdoor(" + hour + ")", x.outdoor(hour), 50);
                c.due("tariff(" + hour + ")", x.tariff(hour), 1);
            }
        });
        test("The text stays.", () -> {
            HeatPumpPlant x = made();
            c.due("loadWeather()", loaded(x, "0:1;"), 1);
            c.due("loadWeather() once more", x.loadWeather(), 1);
            c.due("clearText()", x.clearText(), 4);
            loaded(x, "0:1");
            c.due("clearText() behind a fault", x.clearText(), 3);
            loaded(x, "0:999;");
            c.due("clearText() behind STATE", x.clearText(), 6);
        });
        test("Returns the number of entries;", () -> {
            HeatPumpPlant x = made();
            c.due("loadWeather() of nothing", x.loadWeather(), 0);
            StringBuilder text = new StringBuilder();
            for (int i = 1; i <= 25; i++) {
                text.append("3:4;");
                c.due("loadWeather()", loaded(x, text.toString()), i);
            }
        });
        test("-10 minus the fault if the text is no weather sheet (before all else);", () -> {
            HeatPumpPlant x = made();
            String[] texts = {"x", "1", "1:1;x", "1:999;x", "9-1:1;x", "1:401;1:-301;2-1:1;1"};
            int[] faults = {0, 1, 4, 6, 6, 20};
            for (int i = 0; i < texts.length; i++) {
                write(x, texts[i]);
                long before = x.digest();
                refused("loadWeather() of " + texts[i], x, before, x.loadWeather(), -10 - faults[i]);
                c.due("undo()", x.undo(), STATE);
            }
        });
        test("STATE if a temperature is less than -300 or greater than 400, or a second hour is less than its first hour", () -> {
            String[] possible = {"0:400;", "0:-300;", "5-5:1;", "0-23:1;", "9-10:1;"};
            for (String text : possible) {
                c.due("loadWeather() of " + text, loaded(made(), text), 1);
            }
            String[] texts = {"0:401;", "0:-301;", "0:999;", "0:-999;", "1-0:1;", "23-22:1;", "10-9:1;", "23-0:1;",
                "1:1;2:401;", "2:401;1:1;", "1:1;2-1:1;3:3;", "2-1:401;", "0-23:401c;"};
            for (String text : texts) {
                c.due("loadWeather() of " + text, loaded(made(), text), STATE);
            }
        });
        test("(then nothing changes, and no state is recorded).", () -> {
            for (String text : new String[] {"0:1p;1:401;", "0:1p;2-1:1;", "0-23:-301p;", "23-0:1p;"}) {
                HeatPumpPlant x = made();
                write(x, text);
                long before = x.digest();
                refused("loadWeather() of " + text, x, before, x.loadWeather(), STATE);
                c.due("outdoor(0)", x.outdoor(0), 50);
                c.due("tariff(0)", x.tariff(0), 1);
                c.due("undo()", x.undo(), STATE);
            }
        });
    }

    private void undo() {
        section("Promise 40: undo");
        only("`int undo()`:");
        test("Restores the latest remembered state, and removes it.", () -> {
            HeatPumpPlant x = made();
            x.setOutdoor(0, 1);
            x.setTariff(0, 2);
            x.undo();
            c.due("tariff(0)", x.tariff(0), 1);
            c.due("outdoor(0)", x.outdoor(0), 1);
            x.undo();
            c.due("outdoor(0)", x.outdoor(0), 50);
            x.setOutdoor(0, 2);
            x.setOutdoor(0, 3);
            x.undo();
            x.setOutdoor(0, 4);
            x.undo();
            c.due("outdoor(0)", x.outdoor(0), 2);
            x.undo();
            c.due("outdoor(0)", x.outdoor(0), 50);
        });
        test("Returns how many recorded states are left;", () -> {
            HeatPumpPlant x = made();
            for (int i = 1; i <= 6; i++) {
                x.run(i);
                c.due("undo()", x.undo(), Math.min(4, i) - 1);
                x.run(i);
            }
            for (int i = 3; i >= 0; i--) {
                c.due("undo()", x.undo(), i);
            }
        });
        test("STATE if there is none.", () -> {
            HeatPumpPlant x = made();
            long before = x.digest();
            refused("undo()", x, before, x.undo(), STATE);
            x.run(1);
            c.due("undo()", x.undo(), 0);
            refused("undo() once more", x, before, x.undo(), STATE);
            for (int i = 0; i < 9; i++) {
                x.run(1);
            }
            for (int i = 0; i < 4; i++) {
                x.undo();
            }
            c.due("undo() of the fifth", x.undo(), STATE);
            c.due("time()", x.time(), 5);
        });
    }

    private void digest() {
        section("Promise 41: digest");
        only("`long digest()`:");
        test("Computes a hash of the state.", () -> {
            HeatPumpPlant x = made();
            c.due("digest()", x.digest(), digestOf(x, 0, 0));
            c.due("digest() once more", x.digest(), made().digest());
        });
        test("h is 19700 at first; then h becomes 31 * h + v (long arithmetic that overflows) for each of these values v, in this "
            + "order: time(); setting() for 0 to 16; for each hour outdoor(), tariff(), demand() and target(); supply() for -300, "
            + "-200 and so on to 400; temperature() for the layers 0 to 3; stored(); pump(); reason(); minutesWith() for 0 to 11; "
            + "startsLastHour(); starts(); defrosts(); frost(); produced(); defrostHeat(); drawn(); unmet(); lost(); "
            + "electricity(); cost();", () -> {
                HeatPumpPlant x = with(MIN_ON, 0, FROST_BELOW, 100, FROST_LIMIT, 4, DEFROST_POWER, 20000);
                loaded(x, "0-3:-120c;4:7p;");
                x.fill(150, 260);
                x.addPoint(-50, 599);
                for (int i = 0; i < 20; i++) {
                    x.run(1 + 37 * i);
                    c.due("digest() at the time " + x.time(), x.digest(), digestOf(x, 15, 4));
                }
                for (int i = 3; i >= 0; i--) {
                    x.undo();
                    c.due("digest() behind undo()", x.digest(), digestOf(x, 15, i));
                }
            });
        test("the length of the text;", () -> {
            HeatPumpPlant x = made();
            for (int length = 1; length <= 100; length++) {
                x.type(59);
                c.due("digest()", x.digest(), digestOf(x, length, 0));
            }
            x.type(59);
            c.due("digest() of a full text", x.digest(), digestOf(x, 100, 0));
            x.clearText();
            c.due("digest() of no text", x.digest(), digestOf(x, 0, 0));
        });
        test("how many recorded states there are.", () -> {
            HeatPumpPlant x = made();
            for (int i = 1; i <= 6; i++) {
                x.set(MIN_ON, 10);
                c.due("digest()", x.digest(), digestOf(x, 0, Math.min(4, i)));
            }
            for (int i = 3; i >= 0; i--) {
                x.undo();
                c.due("digest() behind undo()", x.digest(), digestOf(x, 0, i));
            }
        });
        test("Returns h.", () -> {
            HeatPumpPlant x = made();
            long before = x.digest();
            x.type(48);
            c.due("digest(), 31 * 1 more", x.digest() - before, 31);
            x.clearText();
            x.set(MIN_ON, 10);
            c.due("digest(), 1 more", x.digest() - before, 1);
        });
    }
}
