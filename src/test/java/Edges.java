/** Tests that each stand for some words of the document, and quote them. */
abstract class Edges extends PlantTest {
    /** One test. */
    interface Test {
        void run();
    }

    private final Document document;
    private String heading = "";
    private int tests;

    Edges(Checks checks, Document document) {
        super(checks);
        this.document = document;
    }

    abstract void all();

    void section(String words) {
        heading = words;
    }

    /** A test of its own for these words of the section. */
    void test(String words, Test test) {
        tests++;
        quote(words);
        int before = c.count();
        try {
            test.run();
        } catch (RuntimeException e) {
            c.holds("no exception, as " + e, false);
        }
        c.holds("something is tested", c.count() > before);
        c.about("");
    }

    /** Words that name nothing that a call could answer. */
    void only(String words) {
        quote(words);
        c.about("");
    }

    private void quote(String words) {
        c.about(heading + ": " + words);
        c.holds("the words stand there", document.quote(heading, words));
    }

    int tests() {
        return tests;
    }

    /**
     * No demand, no loss, no conduction and no frost in any hour; the target is 300, or 330 while it is cheap; the heat
     * is POWER, and 395 the percentage while layer 3 is from 300 to 309.
     */
    static HeatPumpPlant calm(int... settingsAndValues) {
        HeatPumpPlant x = with(ROOM, 100, LOSS, 1, INSULATION, 0, CONDUCTANCE, 0, SLOPE, 0);
        loaded(x, "0-23:95;");
        x.clearText();
        x.addPoint(95, 300);
        give(x, settingsAndValues);
        return x;
    }

    /** A calm plant, cold, that has been started in minute 0. */
    static HeatPumpPlant running(int... settingsAndValues) {
        HeatPumpPlant x = calm(settingsAndValues);
        x.fill(100, 200);
        x.run(1);
        return x;
    }

    /** A calm plant, at 400, that has been started in minute 0 and stopped in minute 1. */
    static HeatPumpPlant stopped(int... settingsAndValues) {
        HeatPumpPlant x = running(MIN_ON, 0);
        give(x, settingsAndValues);
        x.fill(100, 400);
        x.run(1);
        return x;
    }

    /** A calm plant, at 200, that has been started in minute 0 and is DEFROSTING from minute 1 on. */
    static HeatPumpPlant defrosting(int... settingsAndValues) {
        HeatPumpPlant x = running(MIN_ON, 0, FROST_BELOW, 100, FROST_LIMIT, 1);
        give(x, settingsAndValues);
        x.fill(100, 200);
        x.run(1);
        return x;
    }

    /** The reason of one more minute, for which all layers are at this temperature. */
    static int reasonAt(HeatPumpPlant x, int temperature) {
        x.fill(100, temperature);
        x.run(1);
        return x.reason();
    }

    void temperatures(HeatPumpPlant x, int... due) {
        for (int layer = 0; layer < due.length; layer++) {
            c.due("temperature(" + layer + ")", x.temperature(layer), due[layer]);
        }
    }

    /** Simulates up to this time. */
    static void runTo(HeatPumpPlant x, int time) {
        while (x.time() < time) {
            x.run(Math.min(1440, time - x.time()));
        }
    }
}
