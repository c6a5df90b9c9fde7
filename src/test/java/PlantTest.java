/** What the tests of the plant share: the document's numbers, and plants to begin with. */
abstract class PlantTest {
    static final int BAD = -1, STATE = -2, FULL = -3, NONE = -9999;
    static final int OFF = 0, ON = 1, DEFROSTING = 2;
    static final int MIN_ON = 0, MIN_OFF = 1, STARTS = 2, BAND = 3, HIGHEST = 4, BOOST = 5, COMFORT = 6,
            POWER = 7, SLOPE = 8, FROST_BELOW = 9, FROST_LIMIT = 10, DEFROST_TIME = 11, DEFROST_POWER = 12,
            INSULATION = 13, CONDUCTANCE = 14, ROOM = 15, LOSS = 16;
    static final int[] LEAST = {0, 0, 1, 1, 300, 0, 150, 500, 0, -50, 1, 1, 0, 0, 0, 100, 1};
    static final int[] MOST =
            {60, 60, 10, 100, 700, 150, 500, 20000, 200, 100, 600, 20, 20000, 50, 100, 300, 1000};
    static final int[] FIRST = {10, 5, 3, 20, 550, 30, 280, 6000, 100, 50, 45, 6, 3000, 2, 20, 200, 150};
    static final int[] FAR = {Integer.MIN_VALUE, -1000000, 1000000, Integer.MAX_VALUE};

    final Checks c;

    PlantTest(Checks checks) {
        c = checks;
    }

    static HeatPumpPlant made() {
        return new HeatPumpPlant();
    }

    static HeatPumpPlant with(int... settingsAndValues) {
        HeatPumpPlant x = new HeatPumpPlant();
        give(x, settingsAndValues);
        return x;
    }

    static void give(HeatPumpPlant x, int... settingsAndValues) {
        for (int i = 0; i < settingsAndValues.length; i += 2) {
            x.set(settingsAndValues[i], settingsAndValues[i + 1]);
        }
    }

    static void write(HeatPumpPlant x, String text) {
        x.clearText();
        for (int i = 0; i < text.length(); i++) {
            x.type(text.charAt(i));
        }
    }

    static int loaded(HeatPumpPlant x, String text) {
        write(x, text);
        return x.loadWeather();
    }

    static long digestOf(HeatPumpPlant x, int length, int records) {
        long h = 31L * 19700 + x.time();
        for (int i = 0; i < 17; i++) h = 31 * h + x.setting(i);
        for (int i = 0; i < 24; i++) {
            h = 31 * h + x.outdoor(i);
            h = 31 * h + x.tariff(i);
            h = 31 * h + x.demand(i);
            h = 31 * h + x.target(i);
        }
        for (int i = -3; i <= 4; i++) h = 31 * h + x.supply(100 * i);
        for (int i = 0; i < 4; i++) h = 31 * h + x.temperature(i);
        h = 31 * h + x.stored();
        h = 31 * h + x.pump();
        h = 31 * h + x.reason();
        for (int i = 0; i < 12; i++) h = 31 * h + x.minutesWith(i);
        long[] rest = {x.startsLastHour(), x.starts(), x.defrosts(), x.frost(), x.produced(), x.defrostHeat(), x.drawn(),
            x.unmet(), x.lost(), x.electricity(), x.cost(), length, records};
        for (long v : rest) h = 31 * h + v;
        return h;
    }

    /** Takes a call that was refused: the state must be as it was. */
    void refused(String call, HeatPumpPlant x, long before, long got, long want) {
        c.due(call, got, want);
        c.due(call + ", then digest()", x.digest(), before);
    }
}
