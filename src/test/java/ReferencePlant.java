import java.util.ArrayList;
import java.util.Arrays;
import java.util.List;
import java.util.Map;
import java.util.TreeMap;
import java.util.regex.Matcher;
import java.util.regex.Pattern;

/** The document written a second time, with the Java library and without a thought for speed or room. */
final class ReferencePlant {
    static final int[][] RANGES = {
        {0, 60, 10}, {0, 60, 5}, {1, 10, 3}, {1, 100, 20}, {300, 700, 550}, {0, 150, 30}, {150, 500, 280},
        {500, 20000, 6000}, {0, 200, 100}, {-50, 100, 50}, {1, 600, 45}, {1, 20, 6}, {0, 20000, 3000}, {0, 50, 2},
        {0, 100, 20}, {100, 300, 200}, {1, 1000, 150}};
    private static final String HOUR = "(1[0-9]?|2[0-3]?|[03-9])";
    private static final String ENTRY = HOUR + "(?:-" + HOUR + ")?:(-?(?:0|[1-9][0-9]{0,2}))([cnp]?);";
    private static final Pattern ONE = Pattern.compile(ENTRY);
    private static final Pattern SHEET = Pattern.compile("(?:" + ENTRY + ")*");

    /** What a change records. */
    private static final class World {
        int[] settings = new int[17];
        int[] outdoor = new int[24];
        int[] tariff = new int[24];
        int[] price = {10, 20, 40};
        TreeMap<Integer, Integer> curve = new TreeMap<>(Map.of(-150, 450, 200, 250));
        long capacity = 700;
        long[] energy = {210000, 210000, 210000, 210000};
        int pump = 0;
        long onMinutes = 0;
        long offMinutes = 1000;
        long frost = 0;
        int defrostingSince = 0;
        List<Integer> reasons = new ArrayList<>();
        long produced, defrostHeat, drawn, unmet, lost, electricity, cost;

        World() {
            for (int i = 0; i < 17; i++) {
                settings[i] = RANGES[i][2];
            }
            Arrays.fill(outdoor, 50);
            Arrays.fill(tariff, 1);
        }

        World copy() {
            World w = new World();
            w.settings = settings.clone();
            w.outdoor = outdoor.clone();
            w.tariff = tariff.clone();
            w.price = price.clone();
            w.curve = new TreeMap<>(curve);
            w.capacity = capacity;
            w.energy = energy.clone();
            w.pump = pump;
            w.onMinutes = onMinutes;
            w.offMinutes = offMinutes;
            w.frost = frost;
            w.defrostingSince = defrostingSince;
            w.reasons = new ArrayList<>(reasons);
            w.produced = produced;
            w.defrostHeat = defrostHeat;
            w.drawn = drawn;
            w.unmet = unmet;
            w.lost = lost;
            w.electricity = electricity;
            w.cost = cost;
            return w;
        }

        int time() {
            return reasons.size();
        }

        long startsFrom(int first) {
            long n = 0;
            for (int m = Math.max(0, first); m < reasons.size(); m++) {
                n += reasons.get(m) == 11 ? 1 : 0;
            }
            return n;
        }

        long t(int layer) {
            return Math.floorDiv(energy[layer], capacity);
        }

        long demand(int hour) {
            return Math.max(0, Math.floorDiv((settings[15] - outdoor[hour]) * settings[16], 10));
        }

        long supply(int x) {
            if (x <= curve.firstKey()) {
                return curve.firstEntry().getValue();
            }
            if (x >= curve.lastKey()) {
                return curve.lastEntry().getValue();
            }
            int a = curve.floorKey(x);
            int b = curve.higherKey(x);
            long p = curve.get(a);
            long q = curve.get(b);
            return p + Math.floorDiv((q - p) * (x - a), b - a);
        }

        long target(int hour) {
            return supply(outdoor[hour]) + (tariff[hour] == 0 ? settings[5] : 0);
        }

        int rule(int hour) {
            if (pump == 2) return 0;
            if (pump == 1 && t(3) >= settings[4]) return 1;
            if (pump == 1 && onMinutes < settings[0]) return 2;
            if (pump == 1 && t(0) >= target(hour) + settings[3]) return 3;
            if (pump == 1 && frost >= settings[10]) return 4;
            if (pump == 1) return 5;
            if (t(0) >= target(hour) - settings[3]) return 6;
            if (t(3) >= settings[4]) return 7;
            if (offMinutes < settings[1]) return 8;
            if (startsFrom(time() - 60) >= settings[2]) return 9;
            if (tariff[hour] == 2 && t(0) >= settings[6]) return 10;
            return 11;
        }

        void minute() {
            int m = time();
            int hour = (m / 60) % 24;
            long x = outdoor[hour];
            if (pump == 2 && m - defrostingSince >= settings[11]) {
                pump = 1;
                frost = 0;
            }
            int reason = rule(hour);
            if (reason == 1 || reason == 3) {
                pump = 0;
                offMinutes = 0;
            } else if (reason == 4) {
                pump = 2;
                defrostingSince = m;
            } else if (reason == 11) {
                pump = 1;
                onMinutes = 0;
            }
            long used = 0;
            if (pump == 1) {
                long heat = Math.max(500, settings[7] + Math.floorDiv(settings[8] * x, 10));
                long percent = 350 + 5 * Math.floorDiv(x, 10) - 4 * Math.floorDiv(t(3) - 300, 10);
                percent = Math.min(700, Math.max(100, percent));
                used = heat * 100 / percent + (heat * 100 % percent == 0 ? 0 : 1);
                energy[3] += heat;
                produced += heat;
                frost += x < settings[9] ? 1 : 0;
            } else if (pump == 2) {
                energy[3] -= settings[12];
                defrostHeat += settings[12];
                used = 200;
            }
            electricity += used;
            cost += used * price[tariff[hour]];
            long heat = Math.max(0, Math.min(demand(hour), energy[0] - 200 * capacity));
            energy[0] -= heat;
            drawn += heat;
            unmet += demand(hour) - heat;
            for (int k = 0; k < 4; k++) {
                long loss = Math.max(0, Math.floorDiv((t(k) - 200) * settings[13], 10));
                energy[k] -= loss;
                lost += loss;
            }
            for (int k = 2; k >= 0; k--) {
                if (t(k) < t(k + 1)) {
                    long s = energy[k] + energy[k + 1];
                    energy[k + 1] = Math.floorDiv(s, 2);
                    energy[k] = s - Math.floorDiv(s, 2);
                }
            }
            for (int k = 0; k <= 2; k++) {
                if (t(k) > t(k + 1)) {
                    long flow = Math.floorDiv((t(k) - t(k + 1)) * settings[14], 10);
                    energy[k] -= flow;
                    energy[k + 1] += flow;
                }
            }
            if (pump == 0) {
                offMinutes++;
            } else {
                onMinutes++;
            }
            reasons.add(reason);
        }

        void minutes(int n) {
            for (int i = 0; i < n; i++) {
                minute();
            }
        }
    }

    private World w = new World();
    private final ArrayList<World> past = new ArrayList<>();
    private String text = "";

    private static boolean in(int value, int least, int most) {
        return least <= value && value <= most;
    }

    private int change() {
        past.add(w.copy());
        if (past.size() > 4) {
            past.remove(0);
        }
        return past.size();
    }

    int set(int setting, int value) {
        if (!in(setting, 0, 16) || !in(value, RANGES[setting][0], RANGES[setting][1])) return -1;
        int n = change();
        w.settings[setting] = value;
        return n;
    }

    int setting(int setting) {
        return in(setting, 0, 16) ? w.settings[setting] : -9999;
    }

    int setOutdoor(int hour, int temperature) {
        if (!in(hour, 0, 23) || !in(temperature, -300, 400)) return -1;
        int n = change();
        w.outdoor[hour] = temperature;
        return n;
    }

    int outdoor(int hour) {
        return in(hour, 0, 23) ? w.outdoor[hour] : -9999;
    }

    int setTariff(int hour, int tariff) {
        if (!in(hour, 0, 23) || !in(tariff, 0, 2)) return -1;
        int n = change();
        w.tariff[hour] = tariff;
        return n;
    }

    int tariff(int hour) {
        return in(hour, 0, 23) ? w.tariff[hour] : -9999;
    }

    int setPrice(int tariff, int price) {
        if (!in(tariff, 0, 2) || !in(price, 0, 1000)) return -1;
        int n = change();
        w.price[tariff] = price;
        return n;
    }

    int demand(int hour) {
        return in(hour, 0, 23) ? (int) w.demand(hour) : -9999;
    }

    int addPoint(int outdoor, int supply) {
        if (!in(outdoor, -300, 400) || !in(supply, 150, 600)) return -1;
        if (w.curve.size() == 6 && !w.curve.containsKey(outdoor)) return -3;
        change();
        w.curve.put(outdoor, supply);
        return w.curve.size();
    }

    int removePoint(int outdoor) {
        if (!w.curve.containsKey(outdoor)) return -1;
        if (w.curve.size() == 1) return -2;
        change();
        w.curve.remove(outdoor);
        return w.curve.size();
    }

    int supply(int outdoor) {
        return in(outdoor, -300, 400) ? (int) w.supply(outdoor) : -9999;
    }

    int target(int hour) {
        return in(hour, 0, 23) ? (int) w.target(hour) : -9999;
    }

    int fill(int capacity, int temperature) {
        if (!in(capacity, 100, 5000) || !in(temperature, 0, 700)) return -1;
        int n = change();
        w.capacity = capacity;
        Arrays.fill(w.energy, (long) capacity * temperature);
        return n;
    }

    int temperature(int layer) {
        return in(layer, 0, 3) ? (int) w.t(layer) : -9999;
    }

    long stored() {
        return Arrays.stream(w.energy).sum();
    }

    int run(int minutes) {
        if (!in(minutes, 1, 1440)) return -1;
        if (w.time() + minutes > 100000) return -3;
        change();
        long before = starts();
        w.minutes(minutes);
        return (int) (starts() - before);
    }

    int time() {
        return w.time();
    }

    int pump() {
        return w.pump;
    }

    int reason() {
        return w.time() == 0 ? -9999 : w.reasons.get(w.time() - 1);
    }

    int minutesWith(int reason) {
        return in(reason, 0, 11) ? (int) w.reasons.stream().filter(r -> r == reason).count() : -1;
    }

    int startsLastHour() {
        return (int) w.startsFrom(w.time() - 60);
    }

    int starts() {
        return minutesWith(11);
    }

    int defrosts() {
        return minutesWith(4);
    }

    int frost() {
        return (int) w.frost;
    }

    long produced() {
        return w.produced;
    }

    long defrostHeat() {
        return w.defrostHeat;
    }

    long drawn() {
        return w.drawn;
    }

    long unmet() {
        return w.unmet;
    }

    long lost() {
        return w.lost;
    }

    long electricity() {
        return w.electricity;
    }

    long cost() {
        return w.cost;
    }

    double meanPercentage() {
        return w.electricity == 0 ? 0.0 : (double) w.produced * 100.0 / (double) w.electricity;
    }

    long costIn(int minutes) {
        if (!in(minutes, 1, 720)) return -1;
        World next = w.copy();
        next.minutes(minutes);
        return next.cost - w.cost;
    }

    int nextSwitch() {
        World next = w.copy();
        for (int n = 1; n <= 720; n++) {
            next.minute();
            if ((next.pump == 0) != (w.pump == 0)) return n;
        }
        return -9999;
    }

    int bestBoost(int minutes) {
        if (!in(minutes, 1, 360)) return -1;
        List<long[]> found = new ArrayList<>();
        for (int boost = 0; boost <= 150; boost += 10) {
            World next = w.copy();
            next.settings[5] = boost;
            next.minutes(minutes);
            found.add(new long[] {next.unmet - w.unmet, next.cost - w.cost, boost});
        }
        found.sort((a, b) -> Arrays.compare(a, b));
        return (int) found.get(0)[2];
    }

    int type(int code) {
        if (!in(code, 32, 126)) return -1;
        if (text.length() == 100) return -3;
        text += (char) code;
        return text.length();
    }

    int clearText() {
        int length = text.length();
        text = "";
        return length;
    }

    int loadWeather() {
        if (!SHEET.matcher(text).matches()) return -10 - fault();
        World next = w.copy();
        int entries = 0;
        Matcher m = ONE.matcher(text);
        while (m.find()) {
            int first = Integer.parseInt(m.group(1));
            int last = m.group(2) == null ? first : Integer.parseInt(m.group(2));
            int temperature = Integer.parseInt(m.group(3));
            if (!in(temperature, -300, 400) || last < first) return -2;
            for (int hour = first; hour <= last; hour++) {
                next.outdoor[hour] = temperature;
                if (!m.group(4).isEmpty()) {
                    next.tariff[hour] = "cnp".indexOf(m.group(4));
                }
            }
            entries++;
        }
        change();
        w = next;
        return entries;
    }

    /** The length of the longest part from the left that something could still make a weather sheet. */
    private int fault() {
        int length = 0;
        while (length < text.length()) {
            Matcher m = SHEET.matcher(text.substring(0, length + 1));
            if (!m.matches() && !m.hitEnd()) break;
            length++;
        }
        return length;
    }

    int undo() {
        if (past.isEmpty()) return -2;
        w = past.remove(past.size() - 1);
        return past.size();
    }

    long digest() {
        List<Long> values = new ArrayList<>();
        values.add((long) time());
        for (int i = 0; i <= 16; i++) values.add((long) setting(i));
        for (int hour = 0; hour < 24; hour++) {
            values.add((long) outdoor(hour));
            values.add((long) tariff(hour));
            values.add((long) demand(hour));
            values.add((long) target(hour));
        }
        for (int x : new int[] {-300, -200, -100, 0, 100, 200, 300, 400}) values.add((long) supply(x));
        for (int k = 0; k < 4; k++) values.add((long) temperature(k));
        values.add(stored());
        values.add((long) pump());
        values.add((long) reason());
        for (int i = 0; i <= 11; i++) values.add((long) minutesWith(i));
        values.add((long) startsLastHour());
        values.add((long) starts());
        values.add((long) defrosts());
        values.add((long) frost());
        values.addAll(List.of(produced(), defrostHeat(), drawn(), unmet(), lost(), electricity(), cost()));
        values.add((long) text.length());
        values.add((long) past.size());
        long h = 19700;
        for (long v : values) {
            h = 31 * h + v;
        }
        return h;
    }
}
