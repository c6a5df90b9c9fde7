/** The simulation of a minute, step by step. */
final class MinuteEdges extends Edges {
    MinuteEdges(Checks checks, Document document) {
        super(checks, document);
    }

    @Override
    void all() {
        section("A minute");
        atFirst();
        order();
        endOfDefrosting();
        firstRule();
        rulesWhileOn();
        rulesWhileOff();
        production();
        defrostingHeat();
        drawing();
        losses();
        rising();
        conduction();
        counting();
    }

    private void atFirst() {
        test("The pump is OFF, ON or DEFROSTING;", () -> {
            c.due("pump() that was stopped", stopped().pump(), OFF);
            c.due("pump() that was started", running().pump(), ON);
            c.due("pump() that defrosts", defrosting().pump(), DEFROSTING);
        });
        test("it is OFF at first.", () -> {
            HeatPumpPlant x = made();
            c.due("pump()", x.pump(), OFF);
            c.due("reason() of a first minute in the warm", reasonAt(x, 400), 6);
            c.due("pump()", x.pump(), OFF);
        });
        test("It has on-minutes and off-minutes, which are 0 and 1000 at first,", () -> {
            HeatPumpPlant x = calm(MIN_OFF, 60, MIN_ON, 2);
            c.due("reason() of the first minute", reasonAt(x, 200), 11);
            c.due("reason() with 1 on-minute", reasonAt(x, 400), 2);
            c.due("reason() with 2 on-minutes", reasonAt(x, 400), 3);
        });
        test("and frost, which is 0 at first.", () -> {
            HeatPumpPlant x = calm(FROST_LIMIT, 1, MIN_ON, 0);
            c.due("frost()", x.frost(), 0);
            x.fill(100, 200);
            x.run(3);
            c.due("frost()", x.frost(), 0);
            c.due("reason() with a limit of 1", x.reason(), 5);
        });
        test("In minute m, let x, tariff, demand and target be those of the hour of m.", this::changeOfTheHour);
    }

    private void changeOfTheHour() {
        HeatPumpPlant x = with(MIN_ON, 0, FROST_BELOW, -50, HIGHEST, 700);
        loaded(x, "0:0;1:-40p;");
        x.set(COMFORT, 500);
        x.fill(5000, 200);
        x.run(59);
        long[][] due = {{6000, 3000, 20}, {5600, 3600, 40}};
        for (long[] minute : due) {
            long produced = x.produced();
            long asked = x.drawn() + x.unmet();
            long used = x.electricity();
            long cost = x.cost();
            x.run(1);
            String name = " of minute " + (x.time() - 1);
            c.due("produced()" + name, x.produced() - produced, minute[0]);
            c.due("the demand" + name, x.drawn() + x.unmet() - asked, minute[1]);
            c.due("cost()" + name, x.cost() - cost, (x.electricity() - used) * minute[2]);
        }
        // One run across the change: 3000 in each of 60 minutes, then 3600 in each of 40.
        x = with(FROST_BELOW, -50);
        loaded(x, "0:0;1:-40p;");
        x.run(100);
        c.due("the demand of 100 minutes", x.drawn() + x.unmet(), 60 * 3000 + 40 * 3600);
        x = calm();
        x.setTariff(1, 0);
        runTo(x, 59);
        c.due("reason() of minute 59, at target - 10", reasonAt(x, 290), 6);
        c.due("reason() of minute 60, at target - 40", reasonAt(x, 290), 11);
        x = calm();
        x.setTariff(0, 0);
        runTo(x, 1439);
        c.due("reason() of minute 1439, at target - 10", reasonAt(x, 290), 6);
        c.due("reason() of minute 1440, at target - 40", reasonAt(x, 290), 11);
    }

    private void order() {
        test("The following steps are done in this order:", () -> {
            HeatPumpPlant x = defrosting(DEFROST_TIME, 1);
            x.run(1);
            c.due("reason(): the end of a defrosting, then the decision", x.reason(), 5);
            c.due("produced(): the decision, then the production", running().produced(), 6000);
            x = stopped();
            c.due("produced(): the decision, then no production", x.produced(), 6000);
            // 1000 are drawn from layer 0, which is at 200 then and loses nothing; the others lose 10 * 50 div 10.
            x = calm(ROOM, 105, LOSS, 1000, INSULATION, 50);
            x.addPoint(95, 150);
            x.fill(100, 210);
            x.run(1);
            c.due("lost(): the drawing, then the losses", x.lost(), 150);
            // Layer 3 is at 350 and loses 150 * 50 div 10; if it had risen before, 250 would be lost.
            x = calm(POWER, 20000, INSULATION, 50);
            x.fill(100, 150);
            x.run(1);
            c.due("lost(): the production, then the losses, then the rising", x.lost(), 750);
            temperatures(x, 174, 174, 198, 246);
            risingBeforeConduction();
        });
    }

    /** Behind a defrosting, layer 1 is warmer than layer 2 until layer 0, from which was drawn, mixes with it. */
    private void risingBeforeConduction() {
        HeatPumpPlant x = running(MIN_ON, 0, FROST_BELOW, 100, FROST_LIMIT, 1, DEFROST_POWER, 10000, CONDUCTANCE, 100);
        x.addPoint(95, 600);
        x.fill(100, 400);
        x.run(1);
        c.due("reason()", x.reason(), 4);
        temperatures(x, 400, 400, 390, 310);
        give(x, DEFROST_POWER, 0, ROOM, 125, LOSS, 1000);
        x.run(1);
        c.due("reason()", x.reason(), 0);
        // 3000 are drawn: 370 and 400 become 385, which is below 390; (390 - 310) * 100 div 10 are conducted.
        temperatures(x, 385, 385, 382, 318);
    }

    private void endOfDefrosting() {
        test("1. If the pump is DEFROSTING and has been DEFROSTING for DEFROST_TIME minutes or more, it is ON", () -> {
            for (int time : new int[] {1, 2, 20}) {
                HeatPumpPlant x = defrosting(DEFROST_TIME, time);
                for (int i = 1; i < time; i++) {
                    x.run(1);
                    c.due("pump() for " + i + " of " + time + " minutes", x.pump(), DEFROSTING);
                }
                x.run(1);
                c.due("pump() behind " + time + " minutes", x.pump(), ON);
            }
            HeatPumpPlant x = defrosting(DEFROST_TIME, 20);
            x.run(5);
            x.set(DEFROST_TIME, 2);
            x.run(1);
            c.due("pump() behind more minutes than it may", x.pump(), ON);
        });
        test("(its on-minutes go on),", () -> {
            // It was started 8 minutes before: 1 minute ON, and 7 DEFROSTING.
            for (int least = 8; least <= 9; least++) {
                HeatPumpPlant x = defrosting(DEFROST_TIME, 7);
                x.run(6);
                x.set(MIN_ON, least);
                x.run(1);
                c.due("reason() with MIN_ON " + least, x.reason(), least == 8 ? 5 : 2);
            }
        });
        test("and the frost is 0.", () -> {
            HeatPumpPlant x = defrosting(DEFROST_TIME, 2, FROST_LIMIT, 1);
            x.run(1);
            c.due("frost() while defrosting", x.frost(), 1);
            x.setOutdoor(0, 100);
            x.run(1);
            c.due("frost() behind it, in the warm", x.frost(), 0);
            c.due("reason(): no frost any more", x.reason(), 5);
            x.undo();
            x.setOutdoor(0, 99);
            x.run(1);
            c.due("frost() behind it, in the cold", x.frost(), 1);
        });
    }

    /** Pairs of rules whose conditions both hold: the first one is applied. */
    private void firstRule() {
        test("2. The decision. The first of the following rules whose condition holds is applied;", () -> {
            c.due("rule 1 before 2", reasonAt(running(MIN_ON, 60), 550), 1);
            c.due("rule 1 before 3", reasonAt(running(MIN_ON, 0), 550), 1);
            HeatPumpPlant x = running(MIN_ON, 0, FROST_BELOW, 100, FROST_LIMIT, 1, HIGHEST, 310);
            c.due("rule 1 before 4", reasonAt(x, 310), 1);
            c.due("rule 2 before 3", reasonAt(running(MIN_ON, 60), 400), 2);
            c.due("rule 2 before 4", reasonAt(running(FROST_BELOW, 100, FROST_LIMIT, 1), 200), 2);
            c.due("rule 3 before 4", reasonAt(running(MIN_ON, 0, FROST_BELOW, 100, FROST_LIMIT, 1), 400), 3);
            c.due("rule 4 before 5", reasonAt(running(MIN_ON, 0, FROST_BELOW, 100, FROST_LIMIT, 1), 200), 4);
            c.due("rule 6 before 7", reasonAt(calm(), 600), 6);
            c.due("rule 6 before 8", reasonAt(stopped(MIN_OFF, 60), 400), 6);
            c.due("rule 6 before 9", reasonAt(stopped(MIN_OFF, 0, STARTS, 1), 400), 6);
            c.due("rule 6 before 10", reasonAt(inThePeak(calm(COMFORT, 150)), 280), 6);
            c.due("rule 7 before 8", reasonAt(wanting(stopped(MIN_OFF, 60)), 550), 7);
            c.due("rule 7 before 9", reasonAt(wanting(stopped(MIN_OFF, 0, STARTS, 1)), 550), 7);
            c.due("rule 7 before 10", reasonAt(inThePeak(wanting(calm(COMFORT, 150))), 550), 7);
            c.due("rule 8 before 9", reasonAt(stopped(MIN_OFF, 60, STARTS, 1), 200), 8);
            c.due("rule 8 before 10", reasonAt(inThePeak(stopped(MIN_OFF, 60, COMFORT, 150)), 200), 8);
            c.due("rule 9 before 10", reasonAt(inThePeak(stopped(MIN_OFF, 0, STARTS, 1, COMFORT, 150)), 200), 9);
            c.due("rule 10 before 11", reasonAt(inThePeak(calm(COMFORT, 150)), 200), 10);
        });
        test("its number is the reason of this minute:", () -> {
            HeatPumpPlant x = defrosting(DEFROST_TIME, 2);
            int[] reasons = {4, 0, 5, 4, 0, 5};
            for (int i = 0; i < reasons.length; i++) {
                c.due("reason() of minute " + (i + 1), x.reason(), reasons[i]);
                x.run(1);
            }
        });
    }

    private static HeatPumpPlant inThePeak(HeatPumpPlant x) {
        x.setTariff(0, 2);
        return x;
    }

    /** At 579, its top would be too cold. */
    private static HeatPumpPlant wanting(HeatPumpPlant x) {
        x.addPoint(95, 600);
        return x;
    }

    private void rulesWhileOn() {
        test("0: the pump is DEFROSTING: it stays so.", () -> {
            HeatPumpPlant x = defrosting(DEFROST_TIME, 3);
            c.due("reason() at 700", reasonAt(x, 700), 0);
            c.due("pump()", x.pump(), DEFROSTING);
            c.due("reason() at 0", reasonAt(x, 0), 0);
            c.due("pump()", x.pump(), DEFROSTING);
            c.due("reason() when it is over", reasonAt(x, 700), 1);
        });
        test("1: the pump is ON, and the temperature of layer 3 is at least HIGHEST: it is OFF from now on, and its off-minutes "
            + "are 0.", () -> {
                for (int highest : new int[] {300, 700}) {
                    HeatPumpPlant x = running(HIGHEST, highest);
                    c.due("reason() below HIGHEST", reasonAt(x, highest - 1), 2);
                    c.due("reason() at HIGHEST", reasonAt(x, highest), 1);
                    c.due("pump()", x.pump(), OFF);
                }
                c.due("reason() below HIGHEST in layer 3", layeredOn(HIGHEST, 351), 5);
                c.due("reason() at HIGHEST in layer 3", layeredOn(HIGHEST, 350), 1);
                c.due("reason() with 1 off-minute of 1", reasonAt(tooHot(1), 200), 11);
                HeatPumpPlant x = tooHot(2);
                c.due("reason() with 1 off-minute of 2", reasonAt(x, 200), 8);
                c.due("reason() with 2 off-minutes of 2", reasonAt(x, 200), 11);
            });
        test("2: the pump is ON, and its on-minutes are less than MIN_ON: it stays ON.", () -> {
            for (int least : new int[] {0, 1, 2, 60}) {
                HeatPumpPlant x = running(MIN_ON, least);
                for (int i = 1; i < least; i++) {
                    c.due("reason() with " + i + " on-minutes of " + least, reasonAt(x, 400), 2);
                    c.due("pump()", x.pump(), ON);
                }
                c.due("reason() with enough on-minutes of " + least, reasonAt(x, 400), 3);
            }
        });
        test("3: the pump is ON, and the temperature of layer 0 is at least target + BAND: it is OFF from now on, and its "
            + "off-minutes are 0.", () -> {
                for (int band : new int[] {1, 20, 100}) {
                    HeatPumpPlant x = running(MIN_ON, 0);
                    x.set(BAND, band);
                    c.due("reason() below target + " + band, reasonAt(x, 300 + band - 1), 5);
                    c.due("reason() at target + " + band, reasonAt(x, 300 + band), 3);
                    c.due("pump()", x.pump(), OFF);
                }
                c.due("reason() below target + 13 in layer 0", layeredOn(BAND, 13), 5);
                c.due("reason() at target + 12 in layer 0", layeredOn(BAND, 12), 3);
                HeatPumpPlant x = running(MIN_ON, 0);
                x.setTariff(0, 0);
                c.due("reason() below the boosted target + 20", reasonAt(x, 349), 5);
                c.due("reason() at the boosted target + 20", reasonAt(x, 350), 3);
                c.due("reason() with 1 off-minute of 1", reasonAt(stopped(MIN_OFF, 1), 200), 11);
                x = stopped(MIN_OFF, 2);
                c.due("reason() with 1 off-minute of 2", reasonAt(x, 200), 8);
                c.due("reason() with 2 off-minutes of 2", reasonAt(x, 200), 11);
            });
        test("4: the pump is ON, and the frost is at least FROST_LIMIT: it is DEFROSTING from now on.", () -> {
            HeatPumpPlant x = running(MIN_ON, 0, FROST_BELOW, 100, FROST_LIMIT, 3);
            c.due("reason() with 1 frost of 3", reasonAt(x, 200), 5);
            c.due("reason() with 2 frost of 3", reasonAt(x, 200), 5);
            long before = x.produced();
            c.due("reason() with 3 frost of 3", reasonAt(x, 200), 4);
            c.due("pump()", x.pump(), DEFROSTING);
            c.due("produced() in this minute", x.produced() - before, 0);
            c.due("defrostHeat()", x.defrostHeat(), 3000);
            x = running(MIN_ON, 0, FROST_BELOW, 100, FROST_LIMIT, 600);
            x.fill(5000, 200);
            x.set(POWER, 500);
            x.run(599);
            c.due("reason() with 599 frost of 600", x.reason(), 5);
            c.due("frost()", x.frost(), 600);
            x.run(1);
            c.due("reason() with 600 frost of 600", x.reason(), 4);
            x = running(MIN_ON, 0, FROST_BELOW, 100);
            x.run(4);
            x.set(FROST_LIMIT, 2);
            c.due("reason() with 5 frost of 2", reasonAt(x, 200), 4);
        });
        test("5: the pump is ON: it stays ON.", () -> {
            HeatPumpPlant x = running(MIN_ON, 0);
            c.due("reason() at 0", reasonAt(x, 0), 5);
            c.due("pump()", x.pump(), ON);
            c.due("reason() below target + BAND", reasonAt(x, 319), 5);
            c.due("pump()", x.pump(), ON);
            x.set(STARTS, 1);
            c.due("reason() behind the one start that is allowed", reasonAt(inThePeak(x), 300), 5);
        });
    }

    /** The reason of a minute that begins ON, with 312, 312, 325 and 350 in the layers and a target of 300. */
    private static int layeredOn(int setting, int value) {
        HeatPumpPlant x = layered();
        x.set(setting, value);
        x.run(1);
        return x.reason();
    }

    private static HeatPumpPlant layered() {
        HeatPumpPlant x = running(MIN_ON, 0, MIN_OFF, 0, POWER, 10000);
        x.fill(100, 300);
        x.run(1);
        return x;
    }

    /** The reason of a minute that begins OFF, with 318, 318, 325 and 337 in the layers. */
    private static int layeredOff(int target, int... settingsAndValues) {
        HeatPumpPlant x = layered();
        x.set(HIGHEST, 350);
        x.run(1);
        x.set(HIGHEST, 550);
        x.addPoint(95, target);
        give(x, settingsAndValues);
        x.run(1);
        return x.reason();
    }

    private static HeatPumpPlant tooHot(int leastOff) {
        HeatPumpPlant x = running(MIN_OFF, leastOff);
        x.fill(100, 550);
        x.run(1);
        return x;
    }

    private void rulesWhileOff() {
        test("6: the temperature of layer 0 is at least target - BAND: the pump stays OFF.", () -> {
            for (int band : new int[] {1, 20, 100}) {
                HeatPumpPlant x = calm(BAND, band);
                c.due("reason() at target - " + band, reasonAt(x, 300 - band), 6);
                c.due("pump()", x.pump(), OFF);
                c.due("reason() below target - " + band, reasonAt(x, 300 - band - 1), 11);
            }
            c.due("reason() at target - 20 in layer 0", layeredOff(338), 6);
            c.due("reason() below target - 20 in layer 0", layeredOff(339), 11);
            HeatPumpPlant x = calm();
            x.setTariff(0, 0);
            c.due("reason() at the boosted target - 20", reasonAt(x, 310), 6);
            c.due("reason() below the boosted target - 20", reasonAt(x, 309), 11);
        });
        test("7: the temperature of layer 3 is at least HIGHEST: the pump stays OFF.", () -> {
            HeatPumpPlant x = wanting(calm(HIGHEST, 300));
            c.due("reason() at HIGHEST", reasonAt(x, 300), 7);
            c.due("pump()", x.pump(), OFF);
            c.due("reason() below HIGHEST", reasonAt(x, 299), 11);
            c.due("reason() at HIGHEST in layer 3", layeredOff(339, HIGHEST, 337), 7);
            c.due("reason() below HIGHEST in layer 3", layeredOff(339, HIGHEST, 338), 11);
            x = calm(HIGHEST, 700, BOOST, 150);
            x.addPoint(95, 600);
            x.setTariff(0, 0);
            c.due("reason() at the greatest HIGHEST", reasonAt(x, 700), 7);
            c.due("reason() below the greatest HIGHEST", reasonAt(x, 699), 11);
        });
        test("8: the off-minutes are less than MIN_OFF: the pump stays OFF.", () -> {
            for (int least : new int[] {0, 1, 2, 60}) {
                HeatPumpPlant x = stopped(MIN_OFF, least);
                for (int i = 1; i < least; i++) {
                    c.due("reason() with " + i + " off-minutes of " + least, reasonAt(x, 200), 8);
                    c.due("pump()", x.pump(), OFF);
                }
                c.due("reason() with enough off-minutes of " + least, reasonAt(x, 200), 11);
            }
        });
        test("9: the pump was started in at least STARTS of the minutes m - 60 to m - 1: it stays OFF.", this::startsOfAnHour);
        test("10: the tariff is 2, and the temperature of layer 0 is at least COMFORT: the pump stays OFF.", () -> {
            for (int comfort : new int[] {150, 250, 279}) {
                HeatPumpPlant x = inThePeak(calm(COMFORT, comfort));
                c.due("reason() at COMFORT " + comfort, reasonAt(x, comfort), 10);
                c.due("pump()", x.pump(), OFF);
                c.due("reason() below COMFORT " + comfort, reasonAt(x, comfort - 1), 11);
            }
            for (int tariff = 0; tariff < 2; tariff++) {
                HeatPumpPlant x = calm(COMFORT, 150);
                x.setTariff(0, tariff);
                c.due("reason() in tariff " + tariff, reasonAt(x, 200), 11);
            }
            HeatPumpPlant x = layered();
            temperatures(x, 312, 312, 325, 350);
            x.set(HIGHEST, 350);
            x.run(1);
            temperatures(x, 318, 318, 325, 337);
            give(x, HIGHEST, 550, COMFORT, 318);
            wanting(inThePeak(x));
            x.run(1);
            c.due("reason() at COMFORT in layer 0", x.reason(), 10);
            x.undo();
            x.set(COMFORT, 319);
            x.run(1);
            c.due("reason() below COMFORT in layer 0", x.reason(), 11);
            x = wanting(inThePeak(calm(COMFORT, 500)));
            c.due("reason() at the greatest COMFORT", reasonAt(x, 500), 10);
        });
        test("11: in all other cases, the pump is started: it is ON from now on, and its on-minutes are 0.", () -> {
            HeatPumpPlant x = calm();
            c.due("reason()", reasonAt(x, 0), 11);
            c.due("pump()", x.pump(), ON);
            c.due("starts()", x.starts(), 1);
            // The on-minutes begin anew, whatever they were at the last stop.
            x = running(MIN_ON, 0, MIN_OFF, 0);
            x.fill(5000, 200);
            x.run(20);
            c.due("reason() of the stop", reasonAt(x, 400), 3);
            c.due("reason() of the next start", reasonAt(x, 200), 11);
            x.set(MIN_ON, 2);
            c.due("reason() with 1 on-minute", reasonAt(x, 400), 2);
            c.due("reason() with 2 on-minutes", reasonAt(x, 400), 3);
        });
    }

    /** Started in the minutes 0, 2, 4 and so on, as often as it may be; then OFF and cold. */
    private void startsOfAnHour() {
        for (int most : new int[] {1, 2, 10}) {
            HeatPumpPlant x = calm(MIN_ON, 0, MIN_OFF, 0, STARTS, most);
            for (int i = 0; i < most; i++) {
                c.due("reason() of start " + i + " of " + most, reasonAt(x, 200), 11);
                c.due("reason() of its stop", reasonAt(x, 400), 3);
            }
            x.fill(100, 200);
            while (x.time() < 61) {
                x.run(1);
                c.due("reason() of minute " + (x.time() - 1), x.reason(), 9);
                c.due("pump()", x.pump(), OFF);
            }
            x.run(1);
            c.due("reason() of minute 61, to which minute 0 is too long ago", x.reason(), 11);
            c.due("startsLastHour()", x.startsLastHour(), most);
        }
        // Three starts are at least two, too.
        HeatPumpPlant x = calm(MIN_ON, 0, MIN_OFF, 0);
        for (int i = 0; i < 3; i++) {
            reasonAt(x, 200);
            reasonAt(x, 400);
        }
        x.set(STARTS, 2);
        c.due("reason() with 3 starts of 2", reasonAt(x, 200), 9);
        x.set(STARTS, 4);
        c.due("reason() with 3 starts of 4", reasonAt(x, 200), 11);
    }

    private void production() {
        test("3. Production. If the pump is ON, its heat is POWER + (SLOPE * x) div 10,", () -> {
            c.due("produced() at 0", heatAt(6000, 100, 0), 6000);
            c.due("produced() at 50", heatAt(6000, 100, 50), 6500);
            c.due("produced() without slope", heatAt(6000, 0, -300), 6000);
            c.due("produced() at -7, with -231 div 10", heatAt(6000, 33, -7), 5976);
            c.due("produced() at 7, with 231 div 10", heatAt(6000, 33, 7), 6023);
            c.due("produced() at most", heatAt(20000, 200, 400), 28000);
            c.due("produced() by a pump that is OFF", calmMinute(400).produced(), 0);
            c.due("produced() by a pump that is DEFROSTING", defrosting().produced(), 6000);
        });
        test("but at least 500;", () -> {
            c.due("produced() of 501", heatAt(501, 0, 0), 501);
            c.due("produced() of 500", heatAt(500, 0, 0), 500);
            c.due("produced() of 500 - 1", heatAt(500, 1, -1), 500);
            c.due("produced() of 6500 - 6000", heatAt(6500, 200, -300), 500);
            c.due("produced() of 6501 - 6000", heatAt(6501, 200, -300), 501);
            c.due("produced() of 500 - 6000", heatAt(500, 200, -300), 500);
        });
        test("its percentage is 350 + 5 * (x div 10) - 4 * ((the temperature of layer 3 - 300) div 10),", () -> {
            // The heat is chosen so that each percentage has its own electricity.
            c.due("electricity() at 50 and 300: 375", used(7500, 50, 300), 2000);
            c.due("electricity() at 59 and 309: 375", used(7500, 59, 309), 2000);
            c.due("electricity() at 60 and 300: 380", used(7600, 60, 300), 2000);
            c.due("electricity() at 50 and 310: 371", used(7420, 50, 310), 2000);
            c.due("electricity() at 50 and 299: 379", used(7580, 50, 299), 2000);
            c.due("electricity() at 0 and 300: 350", used(7000, 0, 300), 2000);
            c.due("electricity() at -1 and 300: 345", used(6900, -1, 300), 2000);
            c.due("electricity() at -10 and 300: 345", used(6900, -10, 300), 2000);
            c.due("electricity() at -11 and 300: 340", used(6800, -11, 300), 2000);
            c.due("electricity() at 400 and 300: 550", used(11000, 400, 300), 2000);
        });
        test("but at least 100", () -> {
            c.due("electricity() at -300 and 549: 104", used(1040, -300, 549), 1000);
            c.due("electricity() at -290 and 560: 101", used(1010, -290, 560), 1000);
            c.due("electricity() at -300 and 550: 100", used(1000, -300, 550), 1000);
            c.due("electricity() at -270 and 590: 99", used(1000, -270, 590), 1000);
            c.due("electricity() at -300 and 598: 84", used(1000, -300, 598), 1000);
        });
        test("and at most 700;", () -> {
            c.due("electricity() at 370 and -110: 699", usedBelowZero(6990, 370, -110), 1000);
            c.due("electricity() at 380 and -100: 700", usedBelowZero(7000, 380, -100), 1000);
            c.due("electricity() at 390 and -90: 701", usedBelowZero(7000, 390, -90), 1000);
            c.due("electricity() at 400 and -200: 750", usedBelowZero(7000, 400, -200), 1000);
        });
        test("its electricity is the heat times 100 divided by the percentage, rounded up;", () -> {
            // 375 at 50 and 300.
            c.due("electricity() of 2250 * 100 / 375", used(2250, 50, 300), 600);
            c.due("electricity() of 2251 * 100 / 375", used(2251, 50, 300), 601);
            c.due("electricity() of 2249 * 100 / 375", used(2249, 50, 300), 600);
            // The rest is 1.
            c.due("electricity() of 578 * 100 / 359", used(578, 10, 299), 162);
        });
        test("the heat is added to the energy of layer 3;", () -> {
            HeatPumpPlant x = running(POWER, 10000);
            c.due("stored()", x.stored(), 80000 + 10000);
            // 30000 and 20000 share in layer 3 and 2, and so on upwards.
            temperatures(x, 212, 212, 225, 250);
            // At the same temperature, nothing rises: it stays in layer 3.
            x = calm(POWER, 500);
            x.fill(700, 200);
            x.run(1);
            c.due("stored()", x.stored(), 4 * 700 * 200 + 500);
            temperatures(x, 200, 200, 200, 200);
            x.run(2);
            c.due("stored()", x.stored(), 4 * 700 * 200 + 1500);
        });
        test("and if x is less than FROST_BELOW, the frost becomes 1 greater.", () -> {
            for (int limit : new int[] {-50, 0, 50, 100}) {
                HeatPumpPlant x = with(FROST_BELOW, limit, ROOM, 300);
                x.setOutdoor(0, limit);
                x.fill(700, 200);
                x.run(3);
                c.due("pump()", x.pump(), ON);
                c.due("frost() at " + limit, x.frost(), 0);
                x.setOutdoor(0, limit - 1);
                x.run(1);
                c.due("frost() below " + limit, x.frost(), 1);
                x.run(3);
                c.due("frost() below " + limit, x.frost(), 4);
            }
            HeatPumpPlant x = calm(FROST_BELOW, 100);
            x.fill(700, 400);
            x.run(9);
            c.due("frost() of a pump that is OFF", x.frost(), 0);
            x = defrosting(DEFROST_TIME, 20);
            x.run(9);
            c.due("frost() of a pump that is DEFROSTING", x.frost(), 1);
        });
    }

    private static HeatPumpPlant calmMinute(int temperature) {
        HeatPumpPlant x = calm();
        x.fill(100, temperature);
        x.run(1);
        return x;
    }

    private static long heatAt(int power, int slope, int outdoor) {
        HeatPumpPlant x = with(POWER, power, SLOPE, slope);
        x.setOutdoor(0, outdoor);
        x.fill(700, 200);
        x.run(1);
        return x.produced();
    }

    /** What a first minute takes, at this outdoor temperature and this temperature in all layers. */
    private static long used(int power, int outdoor, int temperature) {
        HeatPumpPlant x = with(POWER, power, SLOPE, 0, HIGHEST, 700, BOOST, 150);
        x.setOutdoor(0, outdoor);
        x.setTariff(0, 0);
        x.addPoint(outdoor, 600);
        x.fill(700, temperature);
        x.run(1);
        return x.electricity();
    }

    /** What a minute behind a defrosting takes that has taken layer 3 below 0. */
    private static long usedBelowZero(int power, int outdoor, int temperature) {
        HeatPumpPlant x = running(MIN_ON, 0, FROST_BELOW, 100, FROST_LIMIT, 1, DEFROST_TIME, 1,
            DEFROST_POWER, -100 * temperature, POWER, power);
        x.fill(100, 0);
        x.run(1);
        long before = x.electricity();
        x.setOutdoor(0, outdoor);
        x.run(1);
        return x.electricity() - before;
    }

    private void defrostingHeat() {
        test("If the pump is DEFROSTING, DEFROST_POWER is taken from the energy of layer 3 (which can become negative),", () -> {
            for (int power : new int[] {0, 1, 3000, 20000}) {
                HeatPumpPlant x = defrosting(DEFROST_POWER, power);
                c.due("stored() with " + power, x.stored(), 80000 - power);
                c.due("defrostHeat()", x.defrostHeat(), power);
                temperatures(x, 200, 200, 200, power == 0 ? 200 : power == 1 ? 199 : power == 3000 ? 170 : 0);
                x.fill(100, 0);
                x.run(2);
                c.due("stored() below 0", x.stored(), -2L * power);
                temperatures(x, 0, 0, 0, power == 0 ? 0 : power == 1 ? -1 : power == 3000 ? -60 : -400);
            }
        });
        test("and the electricity is 200.", () -> {
            HeatPumpPlant x = defrosting(DEFROST_TIME, 20, DEFROST_POWER, 0);
            long before = x.electricity();
            x.run(1);
            c.due("electricity() of a minute", x.electricity() - before, 200);
            x.set(DEFROST_POWER, 20000);
            x.run(4);
            c.due("electricity() of 5 minutes", x.electricity() - before, 1000);
            c.due("cost() of 5 minutes", x.cost(), x.electricity() * 20);
        });
        test("If the pump is OFF, the electricity is 0.", () -> {
            HeatPumpPlant x = calm();
            x.fill(100, 400);
            x.run(1440);
            c.due("electricity()", x.electricity(), 0);
            x = stopped();
            long before = x.electricity();
            x.run(60);
            c.due("electricity() behind a stop", x.electricity(), before);
        });
        test("The cost of the minute is the electricity times the price of the tariff.", () -> {
            int[][] prices = {{0, 0}, {0, 1000}, {1, 0}, {1, 1000}, {2, 0}, {2, 1000}, {2, 7}};
            for (int[] price : prices) {
                HeatPumpPlant x = calm(POWER, 3950, COMFORT, 500);
                x.setTariff(0, price[0]);
                x.setPrice(price[0], price[1]);
                x.addPoint(95, 400);
                x.fill(700, 300);
                x.run(1);
                c.due("cost() at " + price[1], x.cost(), 1000L * price[1]);
            }
            HeatPumpPlant x = calm();
            x.fill(100, 400);
            x.run(5);
            c.due("cost() while OFF", x.cost(), 0);
        });
    }

    private void drawing() {
        test("4. Drawing. The drawn heat is the demand, but at most the energy of layer 0 minus 200 times the capacity,", () -> {
            int[] demands = {0, 1, 99, 100, 101, 1000};
            for (int demand : demands) {
                HeatPumpPlant x = asking(demand);
                x.fill(100, 201);
                x.run(1);
                c.due("drawn() of " + demand, x.drawn(), Math.min(demand, 100));
            }
            HeatPumpPlant x = asking(1000);
            x.fill(5000, 201);
            x.run(1);
            c.due("drawn() of more than enough", x.drawn(), 1000);
        });
        test("and at least 0.", () -> {
            for (int temperature : new int[] {200, 199, 150, 0}) {
                HeatPumpPlant x = asking(1000);
                x.fill(100, temperature);
                x.run(1);
                c.due("drawn() at " + temperature, x.drawn(), 0);
            }
        });
        test("It is taken from the energy of layer 0.", () -> {
            // Layer 0 has 20901 left, and mixes with layer 1 then.
            HeatPumpPlant x = asking(99);
            x.fill(100, 210);
            x.run(1);
            c.due("stored()", x.stored(), 84000 - 99);
            temperatures(x, 209, 209, 210, 210);
            x = asking(99);
            x.fill(100, 200);
            x.run(1);
            c.due("stored() that has nothing to give", x.stored(), 80000);
        });
        test("The unmet heat is the demand minus the drawn heat.", () -> {
            int[] demands = {0, 99, 100, 101, 1000};
            for (int demand : demands) {
                HeatPumpPlant x = asking(demand);
                x.fill(100, 201);
                x.run(1);
                c.due("unmet() of " + demand, x.unmet(), Math.max(0, demand - 100));
                x.fill(100, 150);
                long before = x.unmet();
                x.run(1);
                c.due("unmet() of " + demand + " below 200", x.unmet() - before, demand);
            }
        });
    }

    /** With a demand of so many watts, and OFF from 50 on. */
    private static HeatPumpPlant asking(int demand) {
        HeatPumpPlant x = demand == 0 ? calm() : calm(ROOM, 105, LOSS, demand);
        x.addPoint(95, 150);
        x.set(BAND, 100);
        return x;
    }

    private void losses() {
        test("5. Losses. From each layer k, ((its temperature - 200) * INSULATION) div 10 is taken,", () -> {
            int[][] due = {{201, 1, 0}, {201, 9, 0}, {201, 10, 1}, {201, 50, 5}, {203, 3, 0}, {204, 3, 1}, {210, 1, 1},
                {300, 2, 20}, {300, 0, 0}, {700, 50, 2500}};
            for (int[] one : due) {
                HeatPumpPlant x = asking(0);
                x.set(INSULATION, one[1]);
                x.fill(700, one[0]);
                x.run(1);
                c.due("lost() at " + one[0] + " with " + one[1], x.lost(), 4 * one[2]);
                c.due("stored()", x.stored(), 4 * (700L * one[0] - one[2]));
            }
        });
        test("or nothing if this is negative.", () -> {
            for (int temperature : new int[] {200, 199, 150, 1, 0}) {
                HeatPumpPlant x = asking(0);
                x.set(INSULATION, 50);
                x.fill(700, temperature);
                x.run(1);
                c.due("lost() at " + temperature, x.lost(), 0);
                c.due("stored()", x.stored(), 4 * 700L * temperature + x.produced());
            }
        });
    }

    private void rising() {
        test("6. Rising. For k = 2, 1, 0 in this order: if the temperature of layer k is less than that of layer k + 1, and s is "
            + "the sum of their energies, layer k + 1 gets the energy s div 2, and layer k the rest of s.", () -> {
                // 20000 and 26500; 23250 and 20000; 21625 and 20000; the odd one of 41625 goes to layer 0.
                HeatPumpPlant x = running(POWER, 6500);
                temperatures(x, 208, 208, 216, 232);
                oddOnes();
                // Equal temperatures do not mix, although layer 3 has 699 more.
                x = calm(POWER, 699);
                x.fill(700, 200);
                x.run(1);
                x.set(POWER, 500);
                x.run(1);
                // 140000 and 141199 share: 140600 and 140599; both are at 200 again.
                temperatures(x, 200, 200, 200, 200);
                x.run(1);
                // 140599 + 500 is at 201 again: 281699 is shared: 140849 for layer 3.
                temperatures(x, 200, 200, 200, 201);
                sumBelowZero();
            });
    }

    /** A sum that is odd: layer k has the greater half, and may be a degree above layer k + 1 by that. */
    private void oddOnes() {
        // 59999 of layer 3 and 2: 29999 and 30000; then 50000 of layer 2 and 1; then 45000.
        HeatPumpPlant x = running(POWER, 19999);
        temperatures(x, 225, 225, 250, 299);
        // 59998: 29999 and 29999; then 49999: 24999 and 25000; then 45000.
        x = running(POWER, 19998);
        temperatures(x, 225, 225, 249, 299);
        // 59996: 29998 twice; 49998: 24999 twice; 44999: 22499 and 22500.
        x = running(POWER, 19996);
        temperatures(x, 225, 224, 249, 299);
    }

    /** A sum of -1: layer 3 gets -1, and layer 2 gets 0. */
    private void sumBelowZero() {
        HeatPumpPlant x = running(MIN_ON, 0, FROST_BELOW, 100, FROST_LIMIT, 1, DEFROST_TIME, 1, DEFROST_POWER, 20000);
        give(x, CONDUCTANCE, 100, POWER, 19999);
        x.fill(100, 0);
        x.run(1);
        c.due("reason()", x.reason(), 4);
        // (0 - -200) * 100 div 10 are conducted from layer 2 to layer 3.
        temperatures(x, 0, 0, -20, -180);
        x.set(CONDUCTANCE, 0);
        x.run(1);
        c.due("reason()", x.reason(), 5);
        temperatures(x, 0, 0, 0, -1);
        c.due("stored()", x.stored(), -1);
    }

    private void conduction() {
        test("7. Conduction. For k = 0, 1, 2 in this order: if the temperature of layer k is greater than that of layer k + 1, "
            + "((the temperature of layer k - that of layer k + 1) * CONDUCTANCE) div 10 is taken from the energy of layer k "
            + "and added to that of layer k + 1.", () -> {
                // A defrosting takes so much from layer 3; what comes down from layer 2 makes it colder than layer 1.
                conducts(100, 9, 200, 200, 200, 199);
                conducts(100, 10, 200, 200, 199, 199);
                conducts(10000, 0, 200, 200, 200, 100);
                conducts(10000, 1, 200, 200, 199, 100);
                conducts(10000, 37, 200, 200, 196, 103);
                conducts(10000, 100, 200, 200, 190, 110);
                conductsDownwards();
            });
        test("In each step, the temperatures are those that follow from the energies at that moment; in the steps 5 to 7 this is "
            + "asked anew for each k.", () -> {
                // Step 3 raises layer 3 from 200 to 300, which step 5 sees: 100 * 50 div 10 are lost, and nothing else.
                HeatPumpPlant x = running(POWER, 10000, INSULATION, 50);
                c.due("lost()", x.lost(), 500);
                // Step 6: layer 1 sees the 225 of layer 2, which was at 200; and so on.
                x = running(POWER, 10000);
                temperatures(x, 212, 212, 225, 250);
                // Step 3 of the next minute sees 250 in layer 3: 350 + 45 + 20.
                long before = x.electricity();
                x.set(POWER, 4150);
                x.run(1);
                c.due("electricity()", x.electricity() - before, 1000);
            });
    }

    /** A defrosting minute from 200 in all layers. */
    private void conducts(int taken, int conductance, int... due) {
        HeatPumpPlant x = running(MIN_ON, 0, FROST_BELOW, 100, FROST_LIMIT, 1, DEFROST_POWER, taken, CONDUCTANCE, conductance);
        x.fill(100, 200);
        x.run(1);
        c.due("stored()", x.stored(), 80000 - taken);
        for (int layer = 0; layer < 4; layer++) {
            c.due("temperature(" + layer + ") with " + taken + " and " + conductance, x.temperature(layer), due[layer]);
        }
    }

    /** What layer 1 gives to layer 2 is there when layer 2 gives to layer 3. */
    private void conductsDownwards() {
        HeatPumpPlant x = running(MIN_ON, 0, FROST_BELOW, 100, FROST_LIMIT, 1, DEFROST_POWER, 10000, CONDUCTANCE, 100);
        x.addPoint(95, 600);
        x.fill(100, 400);
        x.run(1);
        // (400 - 300) * 100 div 10 from layer 2 to layer 3.
        temperatures(x, 400, 400, 390, 310);
        x.run(1);
        // k = 1: (400 - 390) * 10 = 100, so that layer 2 is at 391; k = 2: (391 - 210) * 10 = 1810.
        temperatures(x, 400, 399, 372, 228);
        x.run(1);
        // k = 0: 10, so that layer 1 has 39910; k = 1: (399 - 372) * 10 = 270; k = 2: 37290 + 270 is at 375; (375 - 128) * 10.
        temperatures(x, 399, 396, 350, 152);
        c.due("stored()", x.stored(), 160000 - 3 * 10000);
    }

    private void counting() {
        test("8. If the pump is OFF, its off-minutes become 1 greater; otherwise its on-minutes become 1 greater.", () -> {
            HeatPumpPlant x = stopped(MIN_OFF, 4);
            x.fill(100, 200);
            x.run(2);
            c.due("reason() with 2 off-minutes of 4", x.reason(), 8);
            x.run(1);
            c.due("reason() with 3 off-minutes of 4", x.reason(), 8);
            x.run(1);
            c.due("reason() with 4 off-minutes of 4", x.reason(), 11);
            x.set(MIN_ON, 3);
            c.due("reason() with 1 on-minute of 3", reasonAt(x, 400), 2);
            c.due("reason() with 2 on-minutes of 3", reasonAt(x, 400), 2);
            c.due("reason() with 3 on-minutes of 3", reasonAt(x, 400), 3);
            // While it is DEFROSTING, too: 1 minute ON, 2 DEFROSTING.
            x = defrosting(DEFROST_TIME, 2);
            x.run(1);
            x.set(MIN_ON, 4);
            c.due("reason() with 3 on-minutes of 4", reasonAt(x, 400), 2);
            c.due("reason() with 4 on-minutes of 4", reasonAt(x, 400), 3);
        });
        test("The time becomes 1 greater.", () -> {
            HeatPumpPlant x = made();
            for (int i = 1; i <= 3; i++) {
                x.run(1);
                c.due("time()", x.time(), i);
            }
        });
        test("A minute in which the pump is started counts for the starts, a minute with reason 4 for the defrosts.", () -> {
            HeatPumpPlant x = made();
            c.due("starts() at first", x.starts(), 0);
            c.due("defrosts() at first", x.defrosts(), 0);
            x = defrosting(DEFROST_TIME, 1);
            c.due("starts()", x.starts(), 1);
            c.due("defrosts() behind reason 4", x.defrosts(), 1);
            x.run(1);
            c.due("starts() behind the defrosting, by which it was not started", x.starts(), 1);
            c.due("startsLastHour()", x.startsLastHour(), 1);
            x.run(1);
            c.due("reason()", x.reason(), 4);
            c.due("defrosts()", x.defrosts(), 2);
            c.due("minutesWith(4)", x.minutesWith(4), 2);
            c.due("minutesWith(11)", x.minutesWith(11), 1);
        });
        test("If the pump becomes DEFROSTING in minute m, it has been DEFROSTING for 0 minutes in minute m and for 1 minute in "
            + "minute m + 1.", () -> {
                HeatPumpPlant x = defrosting(DEFROST_TIME, 1);
                c.due("reason() of minute m", x.reason(), 4);
                x.run(1);
                c.due("reason() of minute m + 1, of 1", x.reason(), 5);
                x = defrosting(DEFROST_TIME, 2);
                x.run(1);
                c.due("reason() of minute m + 1, of 2", x.reason(), 0);
                x.run(1);
                c.due("reason() of minute m + 2, of 2", x.reason(), 5);
                // The next one begins with 0 minutes again.
                x.run(1);
                c.due("reason() of the next one", x.reason(), 4);
                x.run(1);
                c.due("reason() of the minute behind", x.reason(), 0);
            });
        test("The accounts are the sums over all simulated minutes of the produced heat (step 3, while ON), the defrost heat (step "
            + "3, while DEFROSTING), the drawn heat, the unmet heat, the losses of all layers, the electricity and the cost.",
            this::accounts);
    }

    private void accounts() {
        HeatPumpPlant x = defrosting(DEFROST_TIME, 2, DEFROST_POWER, 1000, INSULATION, 10);
        give(x, ROOM, 105, LOSS, 500);
        long[] first = {6000, 1000, 0, 0, 0, x.electricity(), x.cost()};
        c.due("electricity(): 600000 / 435, and 200", first[5], 1380 + 200);
        c.due("cost()", first[6], 20 * 1580);
        inAccounts(x, first);
        // DEFROSTING: 400 of 500 are drawn; the layers 1 and 2 lose 4; layer 0 is at 200, and layer 3 at 194.
        x.fill(100, 204);
        x.run(1);
        inAccounts(x, new long[] {6000, 2000, 400, 100, 8, first[5] + 200, first[6] + 4000});
        // OFF: all is drawn, layer 0 is at 395 then.
        x.set(FROST_LIMIT, 600);
        x.fill(100, 400);
        x.run(1);
        c.due("reason()", x.reason(), 3);
        inAccounts(x, new long[] {6000, 2000, 900, 100, 8 + 195 + 600, first[5] + 200, first[6] + 4000});
        x.undo();
        x.undo();
        inAccounts(x, new long[] {6000, 2000, 400, 100, 8, first[5] + 200, first[6] + 4000});
    }

    private void inAccounts(HeatPumpPlant x, long[] due) {
        c.due("produced()", x.produced(), due[0]);
        c.due("defrostHeat()", x.defrostHeat(), due[1]);
        c.due("drawn()", x.drawn(), due[2]);
        c.due("unmet()", x.unmet(), due[3]);
        c.due("lost()", x.lost(), due[4]);
        c.due("electricity()", x.electricity(), due[5]);
        c.due("cost()", x.cost(), due[6]);
    }
}
