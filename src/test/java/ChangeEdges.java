import java.io.IOException;
import java.nio.file.Files;
import java.nio.file.Path;
import java.util.ArrayList;
import java.util.List;

/** Error codes, refused calls, changes, recorded states, and the order of the interface. */
final class ChangeEdges extends Edges {
    /** A call, or several, on a plant. */
    private interface Calls {
        long on(HeatPumpPlant x);
    }

    ChangeEdges(Checks checks, Document document) {
        super(checks, document);
    }

    @Override
    void all() {
        section("Errors and undo");
        codes();
        refusals();
        changes();
        records();
        partsOfTheInterface();
    }

    private void codes() {
        test("Error codes are BAD (an argument is out of its range), STATE (the call is not possible now) and FULL (there is no "
            + "room).", () -> {
                c.due("BAD", HeatPumpPlant.BAD, -1);
                c.due("STATE", HeatPumpPlant.STATE, -2);
                c.due("FULL", HeatPumpPlant.FULL, -3);
                c.due("set(17, 0)", made().set(17, 0), BAD);
                c.due("undo()", made().undo(), STATE);
                c.due("addPoint of a 7th", sixPoints().addPoint(7, 300), FULL);
            });
        test("If several error codes apply to a call, BAD is returned before STATE, and STATE before FULL.", () -> {
            HeatPumpPlant x = sixPoints();
            c.due("addPoint(401, 300) to 6 points", x.addPoint(401, 300), BAD);
            c.due("addPoint(-301, 300) to 6 points", x.addPoint(-301, 300), BAD);
            c.due("addPoint(7, 149) to 6 points", x.addPoint(7, 149), BAD);
            c.due("addPoint(7, 601) to 6 points", x.addPoint(7, 601), BAD);
            x = made();
            x.removePoint(200);
            c.due("removePoint(200) of the one at -150", x.removePoint(200), BAD);
            x = made();
            runTo(x, 100000);
            c.due("run(0) at the end", x.run(0), BAD);
            c.due("run(1441) at the end", x.run(1441), BAD);
            c.due("run(2147483647) at the end", x.run(Integer.MAX_VALUE), BAD);
            x = fullText();
            c.due("type(31) into a full text", x.type(31), BAD);
            c.due("type(127) into a full text", x.type(127), BAD);
        });
    }

    private static HeatPumpPlant sixPoints() {
        HeatPumpPlant x = made();
        for (int i = 1; i <= 4; i++) {
            x.addPoint(i, 300);
        }
        return x;
    }

    private static HeatPumpPlant fullText() {
        HeatPumpPlant x = made();
        for (int i = 0; i < 100; i++) {
            x.type(48);
        }
        return x;
    }

    private void refusals() {
        test("A call that returns an error code changes nothing.", () -> {
            refuses("set", BAD, x -> x.set(MIN_ON, 61), x -> x.set(-1, 10), x -> x.set(17, 10));
            refuses("setOutdoor", BAD, x -> x.setOutdoor(24, 0), x -> x.setOutdoor(-1, 0), x -> x.setOutdoor(0, 401));
            refuses("setTariff", BAD, x -> x.setTariff(24, 0), x -> x.setTariff(-1, 0), x -> x.setTariff(0, 3));
            refuses("setPrice", BAD, x -> x.setPrice(3, 0), x -> x.setPrice(-1, 0), x -> x.setPrice(1, 1001));
            refuses("addPoint", BAD, x -> x.addPoint(401, 300), x -> x.addPoint(0, 149), x -> x.addPoint(0, 601));
            refuses("addPoint", FULL, x -> x.addPoint(7, 300), x -> x.addPoint(-300, 600), x -> x.addPoint(400, 150));
            refuses("removePoint", BAD, x -> x.removePoint(7), x -> x.removePoint(NONE), x -> x.removePoint(401));
            refuses("fill", BAD, x -> x.fill(99, 300), x -> x.fill(5001, 300), x -> x.fill(700, 701));
            refuses("run", BAD, x -> x.run(0), x -> x.run(-1), x -> x.run(1441));
            refuses("minutesWith", BAD, x -> x.minutesWith(-1), x -> x.minutesWith(12));
            refuses("costIn", BAD, x -> x.costIn(0), x -> x.costIn(721));
            refuses("bestBoost", BAD, x -> x.bestBoost(0), x -> x.bestBoost(361));
            refuses("type", BAD, x -> x.type(31), x -> x.type(127));
            refusedAtTheirLimit();
        });
        test("NONE is not an error code; it means that there is no such thing.", () -> {
            c.due("NONE", HeatPumpPlant.NONE, -9999);
            HeatPumpPlant x = made();
            long[] none = {x.setting(17), x.outdoor(24), x.tariff(24), x.demand(24), x.supply(401), x.target(24),
                x.temperature(4), x.reason(), warm().nextSwitch()};
            for (int i = 0; i < none.length; i++) {
                c.due("question " + i, none[i], NONE);
            }
        });
    }

    /** The pump stays OFF, for nothing is drawn or lost. */
    private static HeatPumpPlant warm() {
        HeatPumpPlant x = calm();
        x.fill(700, 400);
        return x;
    }

    /** What there is to see in a plant, and how it goes on. */
    private static long seen(HeatPumpPlant x) {
        long sum = x.digest();
        sum = 31 * sum + x.costIn(300);
        sum = 31 * sum + x.nextSwitch();
        sum = 31 * sum + (long) (1000000 * x.meanPercentage());
        sum = 31 * sum + x.run(240);
        sum = 31 * sum + x.digest();
        for (int i = 0; i < 5; i++) {
            sum = 31 * sum + x.undo();
            sum = 31 * sum + x.digest();
        }
        sum = 31 * sum + x.loadWeather();
        sum = 31 * sum + x.type(48);
        sum = 31 * sum + x.loadWeather();
        return 31 * sum + x.clearText();
    }

    private static HeatPumpPlant busy() {
        HeatPumpPlant x = sixPoints();
        x.set(FROST_BELOW, 100);
        x.set(FROST_LIMIT, 5);
        x.setTariff(1, 0);
        x.fill(200, 290);
        x.run(75);
        write(x, "1:1;2:2");
        return x;
    }

    private void refuses(String name, int due, Calls... calls) {
        HeatPumpPlant x = busy();
        HeatPumpPlant twin = busy();
        for (int i = 0; i < calls.length; i++) {
            c.due(name + ", refused call " + i, calls[i].on(x), due);
        }
        c.due(name + ": what is seen behind it", seen(x), seen(twin));
    }

    private void refusedAtTheirLimit() {
        same("removePoint of the last", made(), made(), x -> x.removePoint(200), x -> x.removePoint(-150), STATE);
        same("undo of nothing", made(), made(), x -> 0, HeatPumpPlant::undo, STATE);
        same("type into a full text", fullText(), fullText(), x -> 0, x -> x.type(49), FULL);
        same("run beyond 100000", made(), made(), x -> {
            runTo(x, 99990);
            return 0;
        }, x -> x.run(11), FULL);
        same("loadWeather of no sheet", busy(), busy(), x -> 0, HeatPumpPlant::loadWeather, -17);
        same("loadWeather of what cannot be", busy(), busy(), x -> {
            write(x, "1:1;2:500;");
            return 0;
        }, HeatPumpPlant::loadWeather, STATE);
        same("loadWeather of hours backwards", busy(), busy(), x -> {
            write(x, "1:1;2-1:2c;");
            return 0;
        }, HeatPumpPlant::loadWeather, STATE);
    }

    private void same(String name, HeatPumpPlant x, HeatPumpPlant twin, Calls before, Calls call, int due) {
        before.on(x);
        before.on(twin);
        c.due(name, call.on(x), due);
        c.due(name + ": what is seen behind it", seen(x), seen(twin));
    }

    private void changes() {
        test("Changes are the successful calls of set, setOutdoor, setTariff, setPrice, addPoint, removePoint, fill, run and "
            + "loadWeather,", () -> {
                records("set", x -> x.set(MIN_ON, 11));
                records("setOutdoor", x -> x.setOutdoor(23, 51));
                records("setTariff", x -> x.setTariff(23, 2));
                records("setPrice", x -> x.setPrice(1, 21));
                records("addPoint", x -> x.addPoint(0, 300));
                records("removePoint", x -> x.removePoint(200));
                records("fill", x -> x.fill(701, 300));
                records("run", x -> x.run(1));
                records("loadWeather", x -> loaded(x, "23:51;"));
                Calls[] others = {x -> x.setting(0), x -> x.outdoor(0), x -> x.tariff(0), x -> x.demand(0), x -> x.supply(0),
                    x -> x.target(0), x -> x.temperature(0), HeatPumpPlant::stored, HeatPumpPlant::time, HeatPumpPlant::pump,
                    HeatPumpPlant::reason, x -> x.minutesWith(0), HeatPumpPlant::startsLastHour, HeatPumpPlant::starts,
                    HeatPumpPlant::defrosts, HeatPumpPlant::frost, HeatPumpPlant::produced, HeatPumpPlant::defrostHeat,
                    HeatPumpPlant::drawn, HeatPumpPlant::unmet, HeatPumpPlant::lost, HeatPumpPlant::electricity,
                    HeatPumpPlant::cost, x -> (long) x.meanPercentage(), x -> x.costIn(1), HeatPumpPlant::nextSwitch,
                    x -> x.bestBoost(1), x -> x.type(48), HeatPumpPlant::clearText, HeatPumpPlant::digest};
                for (int i = 0; i < others.length; i++) {
                    HeatPumpPlant x = made();
                    others[i].on(x);
                    c.due("undo() behind call " + i + " that is no change", x.undo(), STATE);
                }
            });
        test("also those that leave everything as it was.", () -> {
            Calls[] calls = {x -> x.set(MIN_ON, 10), x -> x.setOutdoor(0, 50), x -> x.setTariff(0, 1), x -> x.setPrice(0, 10),
                x -> x.addPoint(200, 250), x -> x.fill(700, 300), x -> loaded(x, "0:50;"), x -> loaded(x, "0:50n;")};
            for (int i = 0; i < calls.length; i++) {
                records("call " + i + " that leaves all as it was", calls[i]);
            }
            records("loadWeather of nothing", HeatPumpPlant::loadWeather);
            HeatPumpPlant x = made();
            x.run(1);
            x.set(MIN_ON, 10);
            c.due("undo() takes the call that changed nothing", x.undo(), 1);
            c.due("time() is still", x.time(), 1);
        });
    }

    /** On a new plant, the call must record one state, and undo() must bring it back. */
    private void records(String name, Calls call) {
        HeatPumpPlant x = made();
        long before = seenNow(x);
        c.holds(name + " succeeds", call.on(x) >= 0);
        x.clearText();
        long after = x.digest();
        c.due(name + ", then undo()", x.undo(), 0);
        c.due(name + ", then what is seen", seenNow(x), before);
        c.due(name + ", then undo() once more", x.undo(), STATE);
        c.holds(name + ": the digest tells the recorded state", after != x.digest());
    }

    private static long seenNow(HeatPumpPlant x) {
        return 31 * (31 * x.digest() + x.costIn(720)) + x.nextSwitch();
    }

    private void records() {
        test("Each change records the state before it: everything except the text.", this::everythingComesBack);
        test("At most 4 recorded states are remembered: when one more is recorded, the oldest one is dropped.", () -> {
            HeatPumpPlant x = made();
            int[] due = {1, 2, 3, 4, 4, 4, 4, 4, 4, 4};
            for (int i = 0; i < due.length; i++) {
                c.due("setOutdoor(0, " + i + ")", x.setOutdoor(0, i), due[i]);
            }
            for (int i = 3; i >= 0; i--) {
                c.due("undo()", x.undo(), i);
                c.due("outdoor(0)", x.outdoor(0), 5 + i);
            }
            c.due("undo() of a dropped state", x.undo(), STATE);
            c.due("outdoor(0)", x.outdoor(0), 5);
            for (int pattern = 0; pattern < 1024; pattern++) {
                changesAndUndos(pattern);
            }
        });
    }

    /** Each bit is a change or an undo(); the states that must be remembered are kept beside it. */
    private void changesAndUndos(int pattern) {
        HeatPumpPlant x = made();
        List<Integer> states = new ArrayList<>();
        int state = 50;
        for (int i = 0; i < 10; i++) {
            String name = "pattern " + pattern + ", call " + i;
            if ((pattern >> i & 1) == 1) {
                if (states.size() == 4) {
                    states.remove(0);
                }
                states.add(state);
                state = i;
                c.due(name + ": setOutdoor(1, " + i + ")", x.setOutdoor(1, i), states.size());
            } else if (states.isEmpty()) {
                c.due(name + ": undo()", x.undo(), STATE);
            } else {
                state = states.remove(states.size() - 1);
                c.due(name + ": undo()", x.undo(), states.size());
            }
            c.due(name + ": outdoor(1)", x.outdoor(1), state);
        }
    }

    private void everythingComesBack() {
        HeatPumpPlant x = busy();
        HeatPumpPlant twin = busy();
        long mean = (long) (1000000 * x.meanPercentage());
        x.set(MIN_OFF, 60);
        x.run(700);
        x.fill(5000, 0);
        loaded(x, "0-23:-300p;");
        for (int i = 0; i < 4; i++) {
            x.undo();
        }
        twin.set(MIN_OFF, 60);
        twin.undo();
        write(twin, "0-23:-300p;");
        c.due("meanPercentage()", (long) (1000000 * x.meanPercentage()), mean);
        // The twin still remembers three states, so only what is behind the next four changes is the same.
        for (int i = 0; i < 4; i++) {
            c.due("run(33)", x.run(33), twin.run(33));
        }
        c.due("digest()", x.digest(), twin.digest());
        c.due("clearText(): the text has stayed", x.clearText(), 11);
        x = made();
        x.setPrice(1, 21);
        x.setPrice(1, 22);
        x.undo();
        c.due("costIn(1) with the price from before", x.costIn(1), 1734 * 21);
        x.undo();
        c.due("costIn(1) with the first price", x.costIn(1), 1734 * 20);
        x = made();
        write(x, "1:1;");
        x.loadWeather();
        x.type(50);
        x.undo();
        c.due("clearText() behind undo()", x.clearText(), 5);
    }

    private void partsOfTheInterface() {
        String[][] parts = {
            {"settings, weather, tariffs", "set", "setting", "setOutdoor", "outdoor", "setTariff", "tariff", "setPrice", "demand"},
            {"heating curve", "addPoint", "removePoint", "supply", "target"},
            {"buffer", "fill", "temperature", "stored"},
            {"simulation", "run", "time", "pump", "reason", "minutesWith", "startsLastHour", "starts", "defrosts", "frost"},
            {"accounts", "produced", "defrostHeat", "drawn", "unmet", "lost", "electricity", "cost", "meanPercentage"},
            {"what would happen", "costIn", "nextSwitch", "bestBoost"},
            {"text", "type", "clearText", "loadWeather"},
            {"undo, checksum", "undo", "digest"}};
        String source = source();
        int at = 0;
        for (String[] part : parts) {
            StringBuilder names = new StringBuilder();
            for (int i = 1; i < part.length; i++) {
                names.append(i == 1 ? "`" : ", `").append(part[i]).append('`');
            }
            int begin = source.indexOf("// ---- " + part[0] + "\n", at);
            int[] last = {begin};
            test("Ahead of the calls " + names + " the interface says: ---- " + part[0] + ".", () -> {
                c.holds("the source says it behind the part before", begin >= 0);
                for (int i = 1; i < part.length; i++) {
                    int found = source.indexOf(" " + part[i] + "(", begin);
                    c.holds(part[i] + " stands behind it, in this order", found > last[0]);
                    last[0] = found;
                }
            });
            at = Math.max(0, last[0]);
        }
    }

    private static String source() {
        try {
            return Files.readString(Path.of("src/main/java/HeatPumpPlant.java"));
        } catch (IOException e) {
            throw new IllegalStateException("the source cannot be read", e);
        }
    }
}
