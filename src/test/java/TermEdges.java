/** The terms: units, settings, weather, tariffs, demand, curve and buffer. */
final class TermEdges extends Edges {
    private static final String[] SETTINGS = {"0 MIN_ON, 0 to 60 minutes, 10;", "1 MIN_OFF, 0 to 60 minutes, 5;",
        "2 STARTS, 1 to 10 per hour, 3;", "3 BAND, 1 to 100 tenths, 20;", "4 HIGHEST, 300 to 700 tenths, 550;",
        "5 BOOST, 0 to 150 tenths, 30;", "6 COMFORT, 150 to 500 tenths, 280;", "7 POWER, 500 to 20000 watts, 6000;",
        "8 SLOPE, 0 to 200 watts per degree, 100;", "9 FROST_BELOW, -50 to 100 tenths, 50;",
        "10 FROST_LIMIT, 1 to 600 minutes, 45;", "11 DEFROST_TIME, 1 to 20 minutes, 6;",
        "12 DEFROST_POWER, 0 to 20000 watts, 3000;", "13 INSULATION, 0 to 50, 2;", "14 CONDUCTANCE, 0 to 100, 20;",
        "15 ROOM, 100 to 300 tenths, 200;", "16 LOSS, 1 to 1000 watts per degree, 150."};

    TermEdges(Checks checks, Document document) {
        super(checks, document);
    }

    @Override
    void all() {
        units();
        section("Settings");
        settings();
        weather();
        demand();
        points();
        supply();
        target();
        buffer();
    }

    private void units() {
        section("Units");
        test("Temperatures are in tenths of a degree, powers in watts, energies in watt-minutes (1 watt during 1 minute).",
            () -> {
                HeatPumpPlant x = running(POWER, 500);
                c.due("produced() by 500 watts in a minute", x.produced(), 500);
                c.due("stored()", x.stored(), 4 * 100 * 200 + 500);
            });
        test("x div y is the quotient of x and y rounded down,", () -> {
            HeatPumpPlant x = with(LOSS, 19);
            x.setOutdoor(0, 199);
            c.due("demand(0) is 19 div 10", x.demand(0), 1);
            x.set(LOSS, 20);
            c.due("demand(0) is 20 div 10", x.demand(0), 2);
            x.set(LOSS, 9);
            c.due("demand(0) is 9 div 10", x.demand(0), 0);
        });
        test("towards minus infinity if it is negative.", () -> {
            HeatPumpPlant x = made();
            c.due("supply(-149) with -200 div 350", x.supply(-149), 449);
            c.due("supply(-143) with -1400 div 350", x.supply(-143), 446);
            c.due("supply(-142) with -1600 div 350", x.supply(-142), 445);
            c.due("produced() with -1 div 10", producedAt(-1), 5999);
            c.due("produced() with -9 div 10", producedAt(-9), 5999);
            c.due("produced() with -10 div 10", producedAt(-10), 5999);
            c.due("produced() with -11 div 10", producedAt(-11), 5998);
            // A defrosting takes 1, 100 or 101 watt-minutes from an empty layer of 100 per tenth.
            c.due("temperature(3) with -1 div 100", defrostedBy(1), -1);
            c.due("temperature(3) with -100 div 100", defrostedBy(100), -1);
            c.due("temperature(3) with -101 div 100", defrostedBy(101), -2);
        });
        test("Minutes are numbered from 0;", () -> {
            HeatPumpPlant x = calm();
            x.setOutdoor(0, 91);
            x.set(LOSS, 20);
            x.run(1);
            c.due("the demand of the first minute is that of hour 0", x.drawn() + x.unmet(), 18);
        });
        test("the time is the number of minutes that have been simulated.", () -> {
            HeatPumpPlant x = made();
            c.due("time() at first", x.time(), 0);
            x.run(1);
            c.due("time()", x.time(), 1);
            x.run(1440);
            c.due("time()", x.time(), 1441);
            x.run(0);
            x.costIn(720);
            x.nextSwitch();
            x.bestBoost(360);
            c.due("time() behind what simulates nothing", x.time(), 1441);
            x.undo();
            c.due("time() behind undo()", x.time(), 1);
        });
        test("The hour of minute m is (m div 60) modulo 24.", this::hours);
    }

    private static long producedAt(int outdoor) {
        HeatPumpPlant x = with(SLOPE, 1);
        x.setOutdoor(0, outdoor);
        x.run(1);
        return x.produced();
    }

    private static int defrostedBy(int heat) {
        HeatPumpPlant x = running(MIN_ON, 0, FROST_BELOW, 100, FROST_LIMIT, 1, DEFROST_POWER, heat);
        x.fill(100, 0);
        x.run(1);
        return x.temperature(3);
    }

    /** In hour h, 15 * h watts are asked for: 15 * 276 in a minute of each hour. */
    private void hours() {
        HeatPumpPlant x = made();
        for (int hour = 0; hour < 24; hour++) {
            x.setOutdoor(hour, 200 - hour);
        }
        x.run(1440);
        c.due("the demand of a day", x.drawn() + x.unmet(), 60 * 15 * 276);
        x.undo();
        int[] minutes = {0, 59, 60, 119, 120, 1379, 1380, 1439, 1440, 1499, 1500, 2879, 2880, 99959, 99960, 99999};
        int[] hours = {0, 0, 1, 1, 2, 22, 23, 23, 0, 0, 1, 23, 0, 9, 10, 10};
        for (int i = 0; i < minutes.length; i++) {
            runTo(x, minutes[i]);
            long before = x.drawn() + x.unmet();
            x.run(1);
            c.due("the demand of minute " + minutes[i], x.drawn() + x.unmet() - before, 15 * hours[i]);
        }
    }

    private void settings() {
        test("The settings, their ranges and their first values are:", () -> {
            HeatPumpPlant x = made();
            c.due("setting(-1)", x.setting(-1), NONE);
            c.due("setting(17)", x.setting(17), NONE);
            for (int i = 0; i < 17; i++) {
                c.due("setting(" + i + ")", x.setting(i), FIRST[i]);
            }
        });
        for (int i = 0; i < SETTINGS.length; i++) {
            int setting = i;
            test(SETTINGS[i], () -> {
                HeatPumpPlant x = made();
                c.due("setting at first", x.setting(setting), FIRST[setting]);
                c.due("set too small", x.set(setting, LEAST[setting] - 1), BAD);
                c.due("set too great", x.set(setting, MOST[setting] + 1), BAD);
                c.due("setting behind these", x.setting(setting), FIRST[setting]);
                c.due("set the least", x.set(setting, LEAST[setting]), 1);
                c.due("setting", x.setting(setting), LEAST[setting]);
                c.due("set the greatest", x.set(setting, MOST[setting]), 2);
                c.due("setting", x.setting(setting), MOST[setting]);
            });
        }
        only("Weather, tariffs, demand and curve");
    }

    private void weather() {
        test("Each hour from 0 to 23 has an outdoor temperature from -300 to 400, which is 50 at first,", () -> {
            HeatPumpPlant x = made();
            for (int hour = 0; hour < 24; hour++) {
                c.due("outdoor(" + hour + ") at first", x.outdoor(hour), 50);
                c.due("setOutdoor(" + hour + ", -301)", x.setOutdoor(hour, -301), BAD);
                c.due("setOutdoor(" + hour + ", 401)", x.setOutdoor(hour, 401), BAD);
                c.due("outdoor(" + hour + ")", x.outdoor(hour), 50);
                c.holds("setOutdoor(" + hour + ", -300)", x.setOutdoor(hour, -300) > 0);
                c.due("outdoor(" + hour + ")", x.outdoor(hour), -300);
                c.holds("setOutdoor(" + hour + ", 400)", x.setOutdoor(hour, 400) > 0);
                c.due("outdoor(" + hour + ")", x.outdoor(hour), 400);
            }
            c.due("setOutdoor(-1, 0)", x.setOutdoor(-1, 0), BAD);
            c.due("setOutdoor(24, 0)", x.setOutdoor(24, 0), BAD);
        });
        test("and a tariff, which is 0 (cheap), 1 (normal) or 2 (peak), and is 1 at first.", () -> {
            HeatPumpPlant x = made();
            for (int hour = 0; hour < 24; hour++) {
                c.due("tariff(" + hour + ") at first", x.tariff(hour), 1);
                c.due("setTariff(" + hour + ", -1)", x.setTariff(hour, -1), BAD);
                c.due("setTariff(" + hour + ", 3)", x.setTariff(hour, 3), BAD);
                c.due("tariff(" + hour + ")", x.tariff(hour), 1);
                for (int tariff = 0; tariff < 3; tariff++) {
                    c.holds("setTariff(" + hour + ", " + tariff + ")", x.setTariff(hour, tariff) > 0);
                    c.due("tariff(" + hour + ")", x.tariff(hour), tariff);
                }
            }
            c.due("setTariff(-1, 0)", x.setTariff(-1, 0), BAD);
            c.due("setTariff(24, 0)", x.setTariff(24, 0), BAD);
        });
        test("Each tariff has a price from 0 to 1000 per watt-minute;", () -> {
            for (int tariff = 0; tariff < 3; tariff++) {
                HeatPumpPlant x = priced(tariff);
                c.due("setPrice(" + tariff + ", -1)", x.setPrice(tariff, -1), BAD);
                c.due("setPrice(" + tariff + ", 1001)", x.setPrice(tariff, 1001), BAD);
                c.holds("setPrice(" + tariff + ", 0)", x.setPrice(tariff, 0) > 0);
                c.due("costIn(1) at 0", x.costIn(1), 0);
                c.holds("setPrice(" + tariff + ", 1000)", x.setPrice(tariff, 1000) > 0);
                c.due("costIn(1) at 1000", x.costIn(1), 1000 * 1000);
            }
            HeatPumpPlant x = made();
            c.due("setPrice(-1, 0)", x.setPrice(-1, 0), BAD);
            c.due("setPrice(3, 0)", x.setPrice(3, 0), BAD);
        });
        test("the prices of the tariffs 0, 1 and 2 are 10, 20 and 40 at first.", () -> {
            c.due("costIn(1) when cheap", priced(0).costIn(1), 1000 * 10);
            c.due("costIn(1) when normal", priced(1).costIn(1), 1000 * 20);
            c.due("costIn(1) in the peak", priced(2).costIn(1), 1000 * 40);
        });
    }

    /** Its first minute has this tariff, and takes 3950 * 100 / 395 = 1000 watt-minutes. */
    private static HeatPumpPlant priced(int tariff) {
        HeatPumpPlant x = calm(POWER, 3950, COMFORT, 500);
        x.addPoint(95, 400);
        x.fill(700, 300);
        x.setTariff(0, tariff);
        return x;
    }

    private void demand() {
        test("The demand of an hour is ((ROOM - outdoor temperature) * LOSS) div 10 watts, or 0 if this is negative.", () -> {
            c.due("demand of 1 * 1 div 10", demand(200, 199, 1), 0);
            c.due("demand of 1 * 10 div 10", demand(200, 199, 10), 1);
            c.due("demand of 0 * 1000 div 10", demand(200, 200, 1000), 0);
            c.due("demand of -1 * 1 div 10", demand(200, 201, 1), 0);
            c.due("demand of -1 * 1000 div 10", demand(200, 201, 1000), 0);
            c.due("demand of -300 * 1000 div 10", demand(100, 400, 1000), 0);
            c.due("demand of 600 * 1000 div 10", demand(300, -300, 1000), 60000);
            c.due("demand of 400 * 1 div 10", demand(100, -300, 1), 40);
        });
    }

    private static int demand(int room, int outdoor, int loss) {
        HeatPumpPlant x = with(ROOM, room, LOSS, loss);
        x.setOutdoor(23, outdoor);
        return x.demand(23);
    }

    private void points() {
        test("The heating curve consists of 1 to 6 points;", () -> {
            HeatPumpPlant x = made();
            for (int i = 3; i <= 6; i++) {
                c.due("addPoint(" + i + ", 300)", x.addPoint(i, 300), i);
            }
            c.due("addPoint of a 7th", x.addPoint(7, 300), FULL);
            c.due("supply(7)", x.supply(7), 299);
            for (int i = 3; i <= 6; i++) {
                c.due("removePoint(" + i + ")", x.removePoint(i), 8 - i);
            }
            c.due("removePoint(-150)", x.removePoint(-150), 1);
            c.due("removePoint of the last", x.removePoint(200), STATE);
            c.due("supply(7)", x.supply(7), 250);
        });
        test("a point has an outdoor temperature from -300 to 400,", () -> {
            HeatPumpPlant x = made();
            c.due("addPoint(-301, 300)", x.addPoint(-301, 300), BAD);
            c.due("addPoint(401, 300)", x.addPoint(401, 300), BAD);
            c.due("addPoint(-300, 300)", x.addPoint(-300, 300), 3);
            c.due("addPoint(400, 310)", x.addPoint(400, 310), 4);
            c.due("supply(-300)", x.supply(-300), 300);
            c.due("supply(400)", x.supply(400), 310);
        });
        test("which no other point has,", () -> {
            HeatPumpPlant x = made();
            c.due("addPoint(200, 300)", x.addPoint(200, 300), 2);
            c.due("addPoint(200, 260)", x.addPoint(200, 260), 2);
            c.due("addPoint(199, 300)", x.addPoint(199, 300), 3);
            c.due("supply(200)", x.supply(200), 260);
            c.due("removePoint(200)", x.removePoint(200), 2);
            c.due("removePoint(200) once more", x.removePoint(200), BAD);
        });
        test("and a supply temperature from 150 to 600.", () -> {
            HeatPumpPlant x = made();
            c.due("addPoint(0, 149)", x.addPoint(0, 149), BAD);
            c.due("addPoint(0, 601)", x.addPoint(0, 601), BAD);
            c.due("supply(0)", x.supply(0), 364);
            c.due("addPoint(0, 150)", x.addPoint(0, 150), 3);
            c.due("supply(0)", x.supply(0), 150);
            c.due("addPoint(0, 600)", x.addPoint(0, 600), 3);
            c.due("supply(0)", x.supply(0), 600);
        });
        test("At first there are two points: 450 at -150, and 250 at 200.", () -> {
            HeatPumpPlant x = made();
            c.due("supply(-150)", x.supply(-150), 450);
            c.due("supply(200)", x.supply(200), 250);
            c.due("removePoint(-150)", x.removePoint(-150), 1);
            c.due("supply(-150)", x.supply(-150), 250);
            c.due("removePoint(200)", x.removePoint(200), STATE);
        });
    }

    private void supply() {
        test("The supply temperature at an outdoor temperature x is that of the point with the least outdoor temperature if x "
            + "is not greater than this one,", () -> {
                HeatPumpPlant x = made();
                x.addPoint(-299, 600);
                c.due("supply(-300)", x.supply(-300), 600);
                c.due("supply(-299)", x.supply(-299), 600);
                c.due("supply(-298)", x.supply(-298), 598);
                x.removePoint(-299);
                c.due("supply(-300)", x.supply(-300), 450);
                c.due("supply(-150)", x.supply(-150), 450);
                c.due("supply(-149)", x.supply(-149), 449);
                x.removePoint(-150);
                c.due("supply(-300) of one point", x.supply(-300), 250);
                c.due("supply(200) of one point", x.supply(200), 250);
            });
        test("and that of the point with the greatest outdoor temperature if x is not less than that one.", () -> {
            HeatPumpPlant x = made();
            x.addPoint(399, 150);
            c.due("supply(400)", x.supply(400), 150);
            c.due("supply(399)", x.supply(399), 150);
            // 250 + (-100 * 198) div 199 is 250 - 100.
            c.due("supply(398)", x.supply(398), 150);
            // 250 + (-100 * 197) div 199 is 250 - 99.
            c.due("supply(397)", x.supply(397), 151);
            x.removePoint(399);
            c.due("supply(400)", x.supply(400), 250);
            c.due("supply(200)", x.supply(200), 250);
            c.due("supply(196)", x.supply(196), 252);
            x.removePoint(200);
            c.due("supply(400) of one point", x.supply(400), 450);
            c.due("supply(-150) of one point", x.supply(-150), 450);
        });
        test("Otherwise, let a be the greatest outdoor temperature of a point that is at most x, b the least one that is greater "
            + "than x, and p and q the supply temperatures of these points; then it is p + ((q - p) * (x - a)) div (b - a).",
            () -> {
                HeatPumpPlant x = made();
                x.addPoint(10, 300);
                x.addPoint(11, 407);
                x.addPoint(13, 400);
                c.due("supply(9), below the point", x.supply(9), 300);
                c.due("supply(8), below the point", x.supply(8), 301);
                c.due("supply(10) is that of the point", x.supply(10), 300);
                c.due("supply(11) is that of the neighbour", x.supply(11), 407);
                c.due("supply(12), which falls by 7 div 2 upwards", x.supply(12), 403);
                c.due("supply(13)", x.supply(13), 400);
                x.addPoint(13, 414);
                c.due("supply(12), which rises by 7 div 2", x.supply(12), 410);
                x.removePoint(11);
                c.due("supply(11), between the two that are left", x.supply(11), 338);
                c.due("supply(12)", x.supply(12), 376);
            });
    }

    private void target() {
        test("The target of an hour is the supply temperature at its outdoor temperature, plus BOOST if its tariff is 0.", () -> {
            HeatPumpPlant x = made();
            int[] due = {365, 335, 335};
            for (int tariff = 0; tariff < 3; tariff++) {
                x.setTariff(23, tariff);
                c.due("target(23) in tariff " + tariff, x.target(23), due[tariff]);
                c.due("target(22)", x.target(22), 335);
            }
            x.setTariff(23, 0);
            x.set(BOOST, 0);
            c.due("target(23) without boost", x.target(23), 335);
            x.set(BOOST, 150);
            x.addPoint(50, 600);
            c.due("target(23) at most", x.target(23), 750);
            c.due("target(22) at most", x.target(22), 600);
            x.setOutdoor(23, 200);
            c.due("target(23) when warmer", x.target(23), 400);
            c.due("supply(200) is without boost", x.supply(200), 250);
        });
    }

    private void buffer() {
        section("Buffer");
        test("The buffer has four layers, from 0 at the top to 3 at the bottom.", () -> {
            HeatPumpPlant x = made();
            c.due("temperature(-1)", x.temperature(-1), NONE);
            c.due("temperature(4)", x.temperature(4), NONE);
            // The heat comes in at the bottom, and each layer shares with the one above it; it is drawn from the top.
            x = calm(POWER, 16000);
            x.fill(100, 200);
            x.run(1);
            temperatures(x, 220, 220, 240, 280);
            x = calm(ROOM, 105, LOSS, 1000);
            x.addPoint(95, 200);
            x.fill(100, 220);
            x.run(1);
            // 1000 from layer 0, which shares the loss with layer 1.
            temperatures(x, 215, 215, 220, 220);
        });
        test("All layers have the same capacity from 100 to 5000 watt-minutes per tenth of a degree,", () -> {
            HeatPumpPlant x = made();
            c.due("fill(99, 300)", x.fill(99, 300), BAD);
            c.due("fill(5001, 300)", x.fill(5001, 300), BAD);
            c.due("stored()", x.stored(), 840000);
            c.due("fill(100, 300)", x.fill(100, 300), 1);
            c.due("stored()", x.stored(), 4 * 30000);
            temperatures(x, 300, 300, 300, 300);
            c.due("fill(5000, 300)", x.fill(5000, 300), 2);
            c.due("stored()", x.stored(), 4 * 1500000);
            temperatures(x, 300, 300, 300, 300);
        });
        test("which is 700 at first.", () -> {
            HeatPumpPlant x = made();
            c.due("stored()", x.stored(), 4 * 300 * 700);
            temperatures(x, 300, 300, 300, 300);
        });
        test("A layer has an energy; its temperature is its energy div the capacity.", () -> {
            // Layer 3 keeps 20000 and the half of what comes in.
            int[] powers = {4799, 4800, 4999, 5000};
            int[] due = {223, 224, 224, 225};
            for (int i = 0; i < powers.length; i++) {
                HeatPumpPlant x = running(POWER, powers[i]);
                c.due("stored()", x.stored(), 80000 + powers[i]);
                c.due("temperature(3) of " + powers[i], x.temperature(3), due[i]);
            }
            c.due("temperature(3) of -1", defrostedBy(1), -1);
            c.due("temperature(3) of 0", defrostedBy(0), 0);
        });
        test("At first, the energy of each layer is 300 times the capacity.", () -> {
            HeatPumpPlant x = made();
            temperatures(x, 300, 300, 300, 300);
            c.due("stored()", x.stored(), 840000);
            // The usable energy of layer 0 is 300 - 200 times the capacity, which is 70000 from the first to the last one.
            x = with(ROOM, 300, LOSS, 1000, INSULATION, 0);
            x.setOutdoor(0, -300);
            x.run(1);
            c.due("drawn() of 60000", x.drawn(), 60000);
            c.due("unmet()", x.unmet(), 0);
        });
    }
}
