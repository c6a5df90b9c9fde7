/** The promises 34 to 36: what would happen. */
final class QuestionEdges extends Edges {
    QuestionEdges(Checks checks, Document document) {
        super(checks, document);
    }

    @Override
    void all() {
        costIn();
        nextSwitch();
        bestBoost();
    }

    private interface Question {
        long to(HeatPumpPlant x);
    }

    /** The question is asked often: the answer stays, and so do the plant, and what comes of it. */
    private void changesNothing(Question question) {
        HeatPumpPlant[] plants = {made(), running(), stopped(), defrosting(DEFROST_TIME, 3)};
        HeatPumpPlant[] twins = {made(), running(), stopped(), defrosting(DEFROST_TIME, 3)};
        for (int i = 0; i < plants.length; i++) {
            HeatPumpPlant x = plants[i];
            long before = x.digest();
            long answer = question.to(x);
            c.due("the question once more", question.to(x), answer);
            c.due("digest()", x.digest(), before);
            x.run(200);
            twins[i].run(200);
            c.due("digest() 200 minutes later", x.digest(), twins[i].digest());
            c.dueDouble("meanPercentage()", x.meanPercentage(), twins[i].meanPercentage());
            c.due("undo()", x.undo(), twins[i].undo());
            c.due("digest() behind undo()", x.digest(), twins[i].digest());
        }
    }

    /** At the time 640 or 100000, which are the same minute of a day, both alike: warm, OFF for long, all else given. */
    private static HeatPumpPlant alike(int time, int... settingsAndValues) {
        HeatPumpPlant x = calm();
        x.fill(700, 400);
        runTo(x, time);
        give(x, settingsAndValues);
        return x;
    }

    private void costIn() {
        section("Promise 34: costIn");
        only("`long costIn(int minutes)`:");
        test("Tells the cost of the next minutes if nothing is changed.", () -> {
            HeatPumpPlant x = made();
            loaded(x, "0:-20p;1-2:0c;3-9:-100;");
            x.run(33);
            for (int minutes : new int[] {1, 2, 26, 27, 28, 60, 300, 720}) {
                long told = x.costIn(minutes);
                long before = x.cost();
                x.run(minutes);
                c.due("costIn(" + minutes + ")", told, x.cost() - before);
                x.undo();
            }
        });
        test("Nothing changes.", () -> changesNothing(x -> x.costIn(720)));
        test("- `minutes`: 1 to 720 (also beyond the time 100000)", () -> {
            c.due("costIn(1)", made().costIn(1), 34680);
            c.holds("costIn(720)", made().costIn(720) > 34680);
            HeatPumpPlant x = alike(640, ROOM, 300, LOSS, 100);
            HeatPumpPlant end = alike(100000, ROOM, 300, LOSS, 100);
            c.due("time()", end.time(), 100000);
            c.due("costIn(1) at the end", end.costIn(1), 0);
            long told = x.costIn(720);
            x.run(720);
            c.due("cost()", x.cost(), told);
            c.holds("cost() is not 0", told > 0);
            c.due("costIn(720) at the end", end.costIn(720), told);
            c.due("time()", end.time(), 100000);
            // From 99300 on, the questions reach beyond the end.
            x = alike(1380, ROOM, 300, LOSS, 100);
            end = alike(99300, ROOM, 300, LOSS, 100);
            c.due("costIn(720) across the end", end.costIn(720), x.costIn(720));
            c.due("costIn(700) to the end", end.costIn(700), x.costIn(700));
            c.due("costIn(701) across the end", end.costIn(701), x.costIn(701));
        });
        test("Returns by how much the cost would be greater behind these minutes;", () -> {
            HeatPumpPlant x = calm(POWER, 3950);
            x.addPoint(95, 600);
            x.fill(5000, 300);
            c.due("costIn(1) before any cost", x.costIn(1), 20000);
            c.due("costIn(2)", x.costIn(2), 40000);
            x.run(1);
            c.due("costIn(1) behind a cost", x.costIn(1), 20000);
            x.setPrice(1, 0);
            c.due("costIn(1) for nothing", x.costIn(1), 0);
            x.setPrice(1, 1000);
            c.due("costIn(1) at 1000", x.costIn(1), 1000000);
            x.fill(700, 700);
            c.due("costIn(720) while OFF", x.costIn(720), 0);
        });
        test("BAD if minutes is out of range.", () -> {
            HeatPumpPlant x = made();
            long before = x.digest();
            for (int no : new int[] {0, -1, 721, 1440, -720, Integer.MIN_VALUE, Integer.MAX_VALUE}) {
                refused("costIn(" + no + ")", x, before, x.costIn(no), BAD);
            }
            runTo(x, 100000);
            c.due("costIn(721) at the end", x.costIn(721), BAD);
        });
    }

    private void nextSwitch() {
        section("Promise 35: nextSwitch");
        only("`int nextSwitch()`:");
        test("Tells how long it takes until the pump is started or stopped, if nothing is changed.", () -> {
            HeatPumpPlant x = running(MIN_ON, 7);
            x.fill(100, 400);
            c.due("nextSwitch() of a pump with 1 on-minute of 7", x.nextSwitch(), 7);
            x = stopped(MIN_OFF, 9);
            x.fill(100, 200);
            c.due("nextSwitch() of a pump with 1 off-minute of 9", x.nextSwitch(), 9);
        });
        test("Nothing changes.", () -> changesNothing(HeatPumpPlant::nextSwitch));
        test("Returns the number of minutes, from 1 to 720, behind which the pump is OFF if it is not OFF now, or not OFF if it is "
            + "OFF now, for the first time;", () -> {
                HeatPumpPlant x = made();
                c.due("nextSwitch() by a start at once", x.nextSwitch(), 1);
                x = running(MIN_ON, 0);
                x.fill(100, 400);
                c.due("nextSwitch() by a stop at once", x.nextSwitch(), 1);
                // It would be stopped at once, and started again later.
                x.set(INSULATION, 50);
                x.set(MIN_OFF, 0);
                c.due("nextSwitch() is the first one", x.nextSwitch(), 1);
                // From DEFROSTING to ON is no switch.
                x = defrosting(DEFROST_TIME, 3);
                give(x, MIN_ON, 60, POWER, 500);
                x.fill(100, 400);
                // It has 2 on-minutes, and is stopped with 60.
                c.due("nextSwitch() of a pump that is DEFROSTING", x.nextSwitch(), 59);
                x = defrosting(DEFROST_TIME, 3);
                x.fill(100, 600);
                c.due("nextSwitch() of a pump that is too hot behind it", x.nextSwitch(), 3);
                // Hour 12 begins with minute 720, and wants more.
                c.due("nextSwitch() at the time 1", atNoon(1).nextSwitch(), 720);
                c.due("nextSwitch() at the time 2", atNoon(2).nextSwitch(), 719);
                c.due("nextSwitch() at the time 719", atNoon(719).nextSwitch(), 2);
                c.due("nextSwitch() at the time 720", atNoon(720).nextSwitch(), 1);
                x = atNoon(1);
                x.run(719);
                c.due("pump() 719 minutes later", x.pump(), OFF);
                x.run(1);
                c.due("pump() 720 minutes later", x.pump(), ON);
                // Also from the end on, for which 640 stands.
                HeatPumpPlant end = alike(100000, ROOM, 300, LOSS, 100);
                x = alike(640, ROOM, 300, LOSS, 100);
                int told = x.nextSwitch();
                x.run(told - 1);
                c.due("pump() before it", x.pump(), OFF);
                x.run(1);
                c.due("pump() behind it", x.pump(), ON);
                c.due("nextSwitch() at the end", end.nextSwitch(), told);
            });
        test("NONE if this does not happen in 720 minutes.", () -> {
            c.due("nextSwitch() at the time 0", atNoon(0).nextSwitch(), NONE);
            HeatPumpPlant x = calm();
            c.due("nextSwitch() of a pump that stays OFF", x.nextSwitch(), NONE);
            x = running(POWER, 500, ROOM, 300, LOSS, 1000);
            c.due("nextSwitch() of a pump that stays ON", x.nextSwitch(), NONE);
            x = defrosting(ROOM, 300, LOSS, 1000, DEFROST_TIME, 20, DEFROST_POWER, 20000, POWER, 500);
            c.due("nextSwitch() of a pump that is DEFROSTING most of the time", x.nextSwitch(), NONE);
            c.due("nextSwitch() at the end", alike(100000).nextSwitch(), NONE);
        });
    }

    /** Warm enough but for hour 12. */
    private static HeatPumpPlant atNoon(int time) {
        HeatPumpPlant x = calm();
        x.setTariff(12, 0);
        x.fill(700, 290);
        runTo(x, time);
        return x;
    }

    /**
     * At the time 59, in a cheap minute before a dear hour with this target. It is started at once if the boost lifts
     * target - BAND, which is 280, above this temperature; if it has come to HIGHEST by that, it is stopped before the
     * dear minute, in which it would be started else.
     */
    private static HeatPumpPlant beforeTheDearHour(int temperature, int target, int highest) {
        HeatPumpPlant x = calm(POWER, 20000, HIGHEST, 700);
        x.fill(700, 400);
        runTo(x, 59);
        x.setTariff(0, 0);
        x.setPrice(1, 1000);
        x.setOutdoor(1, 96);
        x.addPoint(96, target);
        x.set(HIGHEST, highest);
        x.fill(100, temperature);
        return x;
    }

    private void bestBoost() {
        section("Promise 36: bestBoost");
        only("`int bestBoost(int minutes)`:");
        test("Finds the best value of BOOST for the next minutes.", () -> {
            // In the cheap minute, layer 3 comes from 290 to 390.
            HeatPumpPlant x = beforeTheDearHour(290, 320, 390);
            c.due("bestBoost(2), started with 20 and more", x.bestBoost(2), 20);
            x = beforeTheDearHour(289, 320, 389);
            c.due("bestBoost(2), started with 10 and more", x.bestBoost(2), 10);
            x = beforeTheDearHour(290, 320, 391);
            c.due("bestBoost(2), not stopped then", x.bestBoost(2), 0);
        });
        test("Of the values 0, 10, 20 and so on to 150,", () -> {
            HeatPumpPlant x = beforeTheDearHour(420, 450, 520);
            c.due("bestBoost(2), started with 150", x.bestBoost(2), 150);
            x = beforeTheDearHour(419, 450, 519);
            c.due("bestBoost(2), started with 140 and more", x.bestBoost(2), 140);
            x = beforeTheDearHour(430, 460, 530);
            c.due("bestBoost(2), started with more than 150", x.bestBoost(2), 0);
            x = beforeTheDearHour(280, 310, 380);
            c.due("bestBoost(2), started with 1 and more", x.bestBoost(2), 10);
            x = beforeTheDearHour(279, 310, 379);
            c.due("bestBoost(2), started with 0 and more", x.bestBoost(2), 0);
            // Whatever BOOST is now.
            x = beforeTheDearHour(290, 320, 390);
            for (int boost : new int[] {0, 11, 15, 20, 25, 150}) {
                x.set(BOOST, boost);
                c.due("bestBoost(2) with " + boost, x.bestBoost(2), 20);
                c.due("setting(5)", x.setting(BOOST), boost);
            }
        });
        test("it is the one with the least unmet heat in these minutes;", () -> {
            HeatPumpPlant x = beforeTheCold(0);
            c.due("bestBoost(2)", x.bestBoost(2), 10);
            c.due("bestBoost(1), in which nothing can be drawn yet", x.bestBoost(1), 0);
            // What was unmet before does not matter.
            x = beforeTheCold(40);
            c.holds("unmet()", x.unmet() > 0);
            c.due("bestBoost(2)", x.bestBoost(2), 10);
        });
        test("of several the one with the least cost in them;", () -> {
            HeatPumpPlant x = beforeTheDearHour(290, 320, 390);
            c.due("unmet()", x.unmet(), 0);
            c.due("bestBoost(2), in which the dear start is saved", x.bestBoost(2), 20);
            c.due("bestBoost(1), in which no start costs less", x.bestBoost(1), 0);
            x.setPrice(1, 0);
            c.due("bestBoost(2) with an hour for nothing", x.bestBoost(2), 0);
            // What was paid before does not matter.
            x = calm(POWER, 20000, HIGHEST, 700);
            x.setPrice(1, 1000);
            x.fill(100, 200);
            x.run(30);
            c.holds("cost()", x.cost() > 0);
            x.fill(100, 400);
            x.run(29);
            x.setTariff(0, 0);
            x.setOutdoor(1, 96);
            x.addPoint(96, 320);
            x.set(HIGHEST, 390);
            x.fill(100, 290);
            c.due("bestBoost(2)", x.bestBoost(2), 20);
        });
        test("of several the smallest one.", () -> {
            c.due("bestBoost(360) without a cheap hour", made().bestBoost(360), 0);
            HeatPumpPlant x = calm();
            x.setTariff(0, 0);
            x.fill(700, 700);
            c.due("bestBoost(60) of a pump that stays OFF", x.bestBoost(60), 0);
            // From 20 to 150 all are alike.
            c.due("bestBoost(2)", beforeTheDearHour(290, 320, 390).bestBoost(2), 20);
            x = beforeTheDearHour(290, 320, 390);
            x.setPrice(0, 0);
            x.setPrice(1, 0);
            c.due("bestBoost(2) for nothing", x.bestBoost(2), 0);
        });
        test("Nothing changes.", () -> {
            changesNothing(x -> x.bestBoost(360));
            HeatPumpPlant x = beforeTheDearHour(290, 320, 390);
            x.set(BOOST, 77);
            x.bestBoost(360);
            c.due("setting(5)", x.setting(BOOST), 77);
            c.due("target(0)", x.target(0), 377);
        });
        test("- `minutes`: 1 to 360 (also beyond the time 100000)", () -> {
            c.due("bestBoost(1)", made().bestBoost(1), 0);
            c.due("bestBoost(360)", made().bestBoost(360), 0);
            // At the time 100000, it is minute 640 of a day, in hour 10.
            HeatPumpPlant x = alike(640);
            HeatPumpPlant end = alike(100000);
            for (HeatPumpPlant one : new HeatPumpPlant[] {x, end}) {
                one.setTariff(10, 0);
                one.setPrice(1, 1000);
                one.set(ROOM, 250);
                one.set(LOSS, 200);
                one.fill(700, 290);
            }
            c.holds("bestBoost(360)", x.bestBoost(360) > 0);
            c.due("bestBoost(360) at the end", end.bestBoost(360), x.bestBoost(360));
            c.due("time()", end.time(), 100000);
        });
        test("Returns the value;", () -> {
            HeatPumpPlant x = beforeTheDearHour(360, 390, 460);
            int boost = x.bestBoost(2);
            c.due("bestBoost(2)", boost, 90);
            c.due("set(5, bestBoost(2))", x.set(BOOST, boost), 4);
        });
        test("BAD if minutes is out of range.", () -> {
            HeatPumpPlant x = made();
            long before = x.digest();
            for (int no : new int[] {0, -1, 361, 720, -360, Integer.MIN_VALUE, Integer.MAX_VALUE}) {
                refused("bestBoost(" + no + ")", x, before, x.bestBoost(no), BAD);
            }
            runTo(x, 100000);
            c.due("bestBoost(361) at the end", x.bestBoost(361), BAD);
        });
    }

    /** It is cheap, and cold enough for a start with 10 and more; of the heat, 750 can be drawn a minute later. */
    private static HeatPumpPlant beforeTheCold(int minutes) {
        HeatPumpPlant x = calm(ROOM, 105, LOSS, 1000);
        x.addPoint(95, 220);
        x.fill(100, 200);
        if (minutes > 0) {
            x.run(minutes);
        }
        x.setTariff(0, 0);
        x.fill(100, 200);
        return x;
    }
}
