/** A heat pump plant that is simulated minute by minute. What it promises stands in ../shared/DOC.md. */
public final class HeatPumpPlant {
    public static final int BAD = -1, STATE = -2, FULL = -3, NONE = -9999;
    public static final int OFF = 0, ON = 1, DEFROSTING = 2;

    private static final int LATEST_TIME = 100000;
    private static final int LONGEST_RUN = 1440;
    private static final int LONGEST_FORECAST = 720;
    private static final int LONGEST_BOOST_SEARCH = 360;
    private static final int HIGHEST_BOOST = 150;
    private static final int BOOST_STEP = 10;
    private static final int MINUTES_PER_HOUR = 60;
    private static final int HOURS = 24;

    private final Plant plant;
    /** The questions are tried out on this one, so that no call makes a new plant. */
    private final Plant trial;
    private final History history;
    private final WeatherSheet text;

    public HeatPumpPlant() {
        plant = new Plant();
        trial = new Plant();
        history = new History();
        text = new WeatherSheet();
    }

    // ---- settings, weather, tariffs

    public int set(int setting, int value) {
        if (!Settings.allows(setting, value)) {
            return BAD;
        }
        int recorded = history.record(plant);
        plant.settings.change(setting, value);
        return recorded;
    }

    public int setting(int setting) {
        return elementOr(plant.settings.values, setting, NONE);
    }

    public int setOutdoor(int hour, int temperature) {
        if (!Weather.isHour(hour) || !Weather.isOutdoor(temperature)) {
            return BAD;
        }
        int recorded = history.record(plant);
        replace(plant.weather.outdoors, hour, temperature);
        return recorded;
    }

    public int outdoor(int hour) {
        return elementOr(plant.weather.outdoors, hour, NONE);
    }

    public int setTariff(int hour, int tariff) {
        if (!Weather.isHour(hour) || !Weather.isTariff(tariff)) {
            return BAD;
        }
        int recorded = history.record(plant);
        replace(plant.weather.tariffs, hour, tariff);
        return recorded;
    }

    public int tariff(int hour) {
        return elementOr(plant.weather.tariffs, hour, NONE);
    }

    public int setPrice(int tariff, int price) {
        if (!Weather.isTariff(tariff) || !Weather.isPrice(price)) {
            return BAD;
        }
        int recorded = history.record(plant);
        replace(plant.weather.prices, tariff, price);
        return recorded;
    }

    public int demand(int hour) {
        return Weather.isHour(hour) ? plant.demandIn(hour) : NONE;
    }

    // ---- heating curve

    public int addPoint(int outdoor, int supply) {
        if (!Weather.isOutdoor(outdoor) || !Curve.isSupply(supply)) {
            return BAD;
        }
        if (!plant.curve.hasRoomFor(outdoor)) {
            return FULL;
        }
        history.record(plant);
        plant.curve.put(outdoor, supply);
        return plant.curve.count;
    }

    public int removePoint(int outdoor) {
        if (!plant.curve.has(outdoor)) {
            return BAD;
        }
        if (plant.curve.count == 1) {
            return STATE;
        }
        history.record(plant);
        plant.curve.drop(outdoor);
        return plant.curve.count;
    }

    public int supply(int outdoor) {
        return Weather.isOutdoor(outdoor) ? plant.curve.supplyAt(outdoor) : NONE;
    }

    public int target(int hour) {
        return Weather.isHour(hour) ? plant.targetIn(hour) : NONE;
    }

    // ---- buffer

    public int fill(int capacity, int temperature) {
        if (!Buffer.isCapacity(capacity) || !Buffer.isFilling(temperature)) {
            return BAD;
        }
        int recorded = history.record(plant);
        plant.buffer.refill(capacity, temperature);
        return recorded;
    }

    public int temperature(int layer) {
        return (int) plant.buffer.temperatureOf(layer);
    }

    public long stored() {
        return plant.buffer.energyOfAll();
    }

    // ---- simulation

    public int run(int minutes) {
        if (minutes < 1 || minutes > LONGEST_RUN) {
            return BAD;
        }
        if (plant.time + minutes > LATEST_TIME) {
            return FULL;
        }
        history.record(plant);
        int before = plant.accounts.starts;
        plant.advance(minutes);
        return plant.accounts.starts - before;
    }

    public int time() {
        return plant.time;
    }

    public int pump() {
        return plant.pump.mode;
    }

    public int reason() {
        return plant.accounts.latestReason;
    }

    public int minutesWith(int reason) {
        return elementOr(plant.accounts.minutesByReason, reason, BAD);
    }

    public int startsLastHour() {
        return plant.pump.recentStarts;
    }

    public int starts() {
        return plant.accounts.starts;
    }

    public int defrosts() {
        return plant.accounts.defrosts;
    }

    public int frost() {
        return plant.pump.frost;
    }

    // ---- accounts

    public long produced() {
        return plant.accounts.produced;
    }

    public long defrostHeat() {
        return plant.accounts.defrostHeat;
    }

    public long drawn() {
        return plant.accounts.drawn;
    }

    public long unmet() {
        return plant.accounts.unmet;
    }

    public long lost() {
        return plant.accounts.lost;
    }

    public long electricity() {
        return plant.accounts.electricity;
    }

    public long cost() {
        return plant.accounts.cost;
    }

    public double meanPercentage() {
        long used = plant.accounts.electricity;
        return used == 0 ? 0.0 : (double) plant.accounts.produced * 100.0 / (double) used;
    }

    // ---- what would happen

    public long costIn(int minutes) {
        if (minutes < 1 || minutes > LONGEST_FORECAST) {
            return BAD;
        }
        trial.copyFrom(plant);
        trial.advance(minutes);
        return trial.accounts.cost - plant.accounts.cost;
    }

    public int nextSwitch() {
        boolean isOff = plant.pump.mode == OFF;
        trial.copyFrom(plant);
        for (int minutes = 1; minutes <= LONGEST_FORECAST; minutes++) {
            trial.advance(1);
            if ((trial.pump.mode == OFF) != isOff) {
                return minutes;
            }
        }
        return NONE;
    }

    public int bestBoost(int minutes) {
        if (minutes < 1 || minutes > LONGEST_BOOST_SEARCH) {
            return BAD;
        }
        int best = 0;
        long leastUnmet = 0;
        long leastCost = 0;
        for (int boost = 0; boost <= HIGHEST_BOOST; boost += BOOST_STEP) {
            trial.copyFrom(plant);
            trial.settings.change(Settings.BOOST, boost);
            trial.advance(minutes);
            long unmet = trial.accounts.unmet;
            long cost = trial.accounts.cost;
            if (boost == 0 || unmet < leastUnmet || unmet == leastUnmet && cost < leastCost) {
                best = boost;
                leastUnmet = unmet;
                leastCost = cost;
            }
        }
        return best;
    }

    // ---- text

    public int type(int code) {
        if (!WeatherSheet.isCode(code)) {
            return BAD;
        }
        return text.append(code) ? text.length : FULL;
    }

    public int clearText() {
        int length = text.length;
        text.length = 0;
        return length;
    }

    public int loadWeather() {
        int entries = text.countEntries();
        if (entries < 0) {
            return entries;
        }
        history.record(plant);
        text.carryOut(plant.weather);
        return entries;
    }

    // ---- undo, checksum

    public int undo() {
        return history.restore(plant);
    }

    public long digest() {
        long hash = mixed(19700, time());
        hash = mixedWithSettings(hash);
        hash = mixedWithBuffer(hash);
        hash = mixedWithSimulation(hash);
        hash = mixedWithAccounts(hash);
        hash = mixed(hash, text.length);
        return mixed(hash, history.count);
    }

    private long mixedWithSettings(long start) {
        long hash = start;
        for (int setting = 0; setting < Settings.COUNT; setting++) {
            hash = mixed(hash, setting(setting));
        }
        for (int hour = 0; hour < HOURS; hour++) {
            hash = mixed(hash, outdoor(hour));
            hash = mixed(hash, tariff(hour));
            hash = mixed(hash, demand(hour));
            hash = mixed(hash, target(hour));
        }
        for (int outdoor = -300; outdoor <= 400; outdoor += 100) {
            hash = mixed(hash, supply(outdoor));
        }
        return hash;
    }

    private long mixedWithBuffer(long start) {
        long hash = start;
        for (int layer = 0; layer < Buffer.LAYERS; layer++) {
            hash = mixed(hash, temperature(layer));
        }
        return mixed(hash, stored());
    }

    private long mixedWithSimulation(long start) {
        long hash = mixed(start, pump());
        hash = mixed(hash, reason());
        for (int reason = 0; reason < Pump.REASONS; reason++) {
            hash = mixed(hash, minutesWith(reason));
        }
        hash = mixed(hash, startsLastHour());
        hash = mixed(hash, starts());
        hash = mixed(hash, defrosts());
        return mixed(hash, frost());
    }

    private long mixedWithAccounts(long start) {
        long hash = mixed(start, produced());
        hash = mixed(hash, defrostHeat());
        hash = mixed(hash, drawn());
        hash = mixed(hash, unmet());
        hash = mixed(hash, lost());
        hash = mixed(hash, electricity());
        return mixed(hash, cost());
    }

    private static long mixed(long hash, long value) {
        return 31 * hash + value;
    }

    /** The document's "x div y", rounded down also below zero, which Java's / is not. */
    private static long div(long x, long y) {
        if (y <= 0) {
            return 0;
        }
        long quotient = x / y;
        return x % y < 0 ? quotient - 1 : quotient;
    }

    private static int elementOr(int[] row, int index, int otherwise) {
        return index >= 0 && index < row.length ? row[index] : otherwise;
    }

    private static void replace(int[] row, int index, int value) {
        if (index >= 0 && index < row.length) {
            row[index] = value;
        }
    }

    private static void copyRow(int[] from, int[] to) {
        for (int i = 0; i < to.length && i < from.length; i++) {
            to[i] = from[i];
        }
    }

    private static void setAll(int[] row, int value) {
        for (int i = 0; i < row.length; i++) {
            row[i] = value;
        }
    }

    /** The numbered settings. */
    private static final class Settings {
        static final int MIN_ON = 0, MIN_OFF = 1, STARTS = 2, BAND = 3, HIGHEST = 4, BOOST = 5, COMFORT = 6,
                POWER = 7, SLOPE = 8, FROST_BELOW = 9, FROST_LIMIT = 10, DEFROST_TIME = 11, DEFROST_POWER = 12,
                INSULATION = 13, CONDUCTANCE = 14, ROOM = 15, LOSS = 16;
        static final int COUNT = 17;

        private static final int[] LEAST =
                {0, 0, 1, 1, 300, 0, 150, 500, 0, -50, 1, 1, 0, 0, 0, 100, 1};
        private static final int[] MOST =
                {60, 60, 10, 100, 700, 150, 500, 20000, 200, 100, 600, 20, 20000, 50, 100, 300, 1000};
        private static final int[] FIRST =
                {10, 5, 3, 20, 550, 30, 280, 6000, 100, 50, 45, 6, 3000, 2, 20, 200, 150};

        final int[] values;

        Settings() {
            values = new int[COUNT];
            for (int i = 0; i < values.length && i < FIRST.length; i++) {
                values[i] = FIRST[i];
            }
        }

        static boolean allows(int setting, int value) {
            return setting >= 0 && setting < LEAST.length && setting < MOST.length
                    && value >= LEAST[setting] && value <= MOST[setting];
        }

        int valueOf(int setting) {
            return elementOr(values, setting, 0);
        }

        void change(int setting, int value) {
            replace(values, setting, value);
        }
    }

    /** Outdoor temperatures and tariffs by the hour, and the prices of the tariffs. */
    private static final class Weather {
        static final int CHEAP = 0, NORMAL = 1, PEAK = 2;
        static final int TARIFFS = 3;

        final int[] outdoors;
        final int[] tariffs;
        final int[] prices;

        Weather() {
            outdoors = new int[HOURS];
            tariffs = new int[HOURS];
            prices = new int[TARIFFS];
            setAll(outdoors, 50);
            setAll(tariffs, NORMAL);
            replace(prices, CHEAP, 10);
            replace(prices, NORMAL, 20);
            replace(prices, PEAK, 40);
        }

        static boolean isHour(int hour) {
            return hour >= 0 && hour < HOURS;
        }

        static boolean isOutdoor(int temperature) {
            return temperature >= -300 && temperature <= 400;
        }

        static boolean isTariff(int tariff) {
            return tariff >= 0 && tariff < TARIFFS;
        }

        static boolean isPrice(int price) {
            return price >= 0 && price <= 1000;
        }

        void copyFrom(Weather other) {
            copyRow(other.outdoors, outdoors);
            copyRow(other.tariffs, tariffs);
            copyRow(other.prices, prices);
        }
    }

    /** The points of the heating curve, kept in the order of their outdoor temperatures. */
    private static final class Curve {
        private static final int MOST_POINTS = 6;

        final int[] outdoors;
        final int[] supplies;
        int count;

        Curve() {
            outdoors = new int[MOST_POINTS];
            supplies = new int[MOST_POINTS];
            count = 2;
            replace(outdoors, 0, -150);
            replace(supplies, 0, 450);
            replace(outdoors, 1, 200);
            replace(supplies, 1, 250);
        }

        static boolean isSupply(int temperature) {
            return temperature >= 150 && temperature <= 600;
        }

        void copyFrom(Curve other) {
            copyRow(other.outdoors, outdoors);
            copyRow(other.supplies, supplies);
            count = other.count;
        }

        boolean has(int outdoor) {
            int place = placeFor(outdoor);
            return place < count && elementOr(outdoors, place, NONE) == outdoor;
        }

        boolean hasRoomFor(int outdoor) {
            return count < MOST_POINTS || has(outdoor);
        }

        void put(int outdoor, int supply) {
            int place = placeFor(outdoor);
            if (!has(outdoor)) {
                moveUpFrom(place);
                replace(outdoors, place, outdoor);
                count++;
            }
            replace(supplies, place, supply);
        }

        void drop(int outdoor) {
            for (int i = placeFor(outdoor); i < count - 1; i++) {
                replace(outdoors, i, elementOr(outdoors, i + 1, 0));
                replace(supplies, i, elementOr(supplies, i + 1, 0));
            }
            count--;
        }

        int supplyAt(int outdoor) {
            int place = placeFor(outdoor);
            if (place == count) {
                return elementOr(supplies, count - 1, NONE);
            }
            int b = elementOr(outdoors, place, NONE);
            int q = elementOr(supplies, place, NONE);
            if (place == 0 || b == outdoor) {
                return q;
            }
            int a = elementOr(outdoors, place - 1, NONE);
            int p = elementOr(supplies, place - 1, NONE);
            return p + (int) div((q - p) * (outdoor - a), b - a);
        }

        /** The number of the points that are colder than this one. */
        private int placeFor(int outdoor) {
            int place = 0;
            while (place < count && place < outdoors.length && outdoors[place] < outdoor) {
                place++;
            }
            return place;
        }

        private void moveUpFrom(int place) {
            for (int i = count; i > place; i--) {
                replace(outdoors, i, elementOr(outdoors, i - 1, 0));
                replace(supplies, i, elementOr(supplies, i - 1, 0));
            }
        }
    }

    /** The stratified buffer. */
    private static final class Buffer {
        static final int LAYERS = 4, TOP = 0, BOTTOM = 3;
        /** Below this temperature nothing is drawn and nothing is lost. */
        private static final int USABLE_FROM = 200;

        final long[] energies;
        int capacity;

        Buffer() {
            energies = new long[LAYERS];
            refill(700, 300);
        }

        static boolean isCapacity(int capacity) {
            return capacity >= 100 && capacity <= 5000;
        }

        static boolean isFilling(int temperature) {
            return temperature >= 0 && temperature <= 700;
        }

        void copyFrom(Buffer other) {
            for (int k = 0; k < energies.length && k < other.energies.length; k++) {
                energies[k] = other.energies[k];
            }
            capacity = other.capacity;
        }

        void refill(int newCapacity, int temperature) {
            capacity = newCapacity;
            for (int k = 0; k < energies.length; k++) {
                energies[k] = (long) newCapacity * temperature;
            }
        }

        long temperatureOf(int layer) {
            return layer >= 0 && layer < energies.length ? div(energies[layer], capacity) : NONE;
        }

        long energyOfAll() {
            long sum = 0;
            for (int k = 0; k < energies.length; k++) {
                sum += energies[k];
            }
            return sum;
        }

        void add(int layer, long heat) {
            if (layer >= 0 && layer < energies.length) {
                energies[layer] += heat;
            }
        }

        long draw(long demand) {
            if (TOP >= energies.length) {
                return 0;
            }
            long usable = energies[TOP] - (long) USABLE_FROM * capacity;
            long heat = Math.max(0L, Math.min(demand, usable));
            energies[TOP] -= heat;
            return heat;
        }

        long lose(int insulation) {
            long sum = 0;
            for (int k = 0; k < energies.length; k++) {
                long loss = Math.max(0L, div((temperatureOf(k) - USABLE_FROM) * insulation, 10));
                energies[k] -= loss;
                sum += loss;
            }
            return sum;
        }

        void rise() {
            for (int k = energies.length - 2; k >= 0; k--) {
                if (temperatureOf(k) < temperatureOf(k + 1)) {
                    long sum = energies[k] + energies[k + 1];
                    energies[k + 1] = div(sum, 2);
                    energies[k] = sum - energies[k + 1];
                }
            }
        }

        void conduct(int conductance) {
            for (int k = 0; k < energies.length - 1; k++) {
                long difference = temperatureOf(k) - temperatureOf(k + 1);
                if (difference > 0) {
                    long heat = div(difference * conductance, 10);
                    energies[k] -= heat;
                    energies[k + 1] += heat;
                }
            }
        }
    }

    /** The values of the hour that is being simulated. */
    private static final class Conditions {
        int outdoor;
        int tariff;
        int price;
        int demand;
        int target;
    }

    /** The compressor with its protections. */
    private static final class Pump {
        /** The reasons, numbered as the rules of the document's step 2. */
        static final int STILL_DEFROSTING = 0, STOPPED_TOO_HOT = 1, KEPT_ON = 2, STOPPED_WARM = 3, DEFROST_BEGUN = 4,
                STILL_ON = 5, WARM_ENOUGH = 6, TOO_HOT = 7, KEPT_OFF = 8, STARTED_TOO_OFTEN = 9, PEAK_AVOIDED = 10,
                STARTED = 11;
        static final int REASONS = 12;

        int mode;
        int onMinutes;
        int offMinutes;
        int defrostMinutes;
        int frost;
        int recentStarts;
        /** 1 where the pump was started in that minute; minute m stands at m modulo 60. */
        final int[] startsByMinute;

        Pump() {
            mode = OFF;
            offMinutes = 1000;
            startsByMinute = new int[MINUTES_PER_HOUR];
        }

        void copyFrom(Pump other) {
            mode = other.mode;
            onMinutes = other.onMinutes;
            offMinutes = other.offMinutes;
            defrostMinutes = other.defrostMinutes;
            frost = other.frost;
            recentStarts = other.recentStarts;
            copyRow(other.startsByMinute, startsByMinute);
        }

        void endDefrosting(int defrostTime) {
            if (mode == DEFROSTING && defrostMinutes >= defrostTime) {
                mode = ON;
                frost = 0;
            }
        }

        int decide(Settings settings, Buffer buffer, Conditions hour) {
            if (mode == DEFROSTING) {
                return STILL_DEFROSTING;
            }
            long top = buffer.temperatureOf(Buffer.TOP);
            boolean tooHot = buffer.temperatureOf(Buffer.BOTTOM) >= settings.valueOf(Settings.HIGHEST);
            if (mode == ON) {
                return decideWhileOn(settings, tooHot, top >= hour.target + settings.valueOf(Settings.BAND));
            }
            if (top >= hour.target - settings.valueOf(Settings.BAND)) {
                return WARM_ENOUGH;
            }
            boolean canWait = hour.tariff == Weather.PEAK && top >= settings.valueOf(Settings.COMFORT);
            return decideWhileNeeded(settings, tooHot, canWait);
        }

        private int decideWhileOn(Settings settings, boolean tooHot, boolean warmEnough) {
            if (tooHot) {
                return STOPPED_TOO_HOT;
            }
            if (onMinutes < settings.valueOf(Settings.MIN_ON)) {
                return KEPT_ON;
            }
            if (warmEnough) {
                return STOPPED_WARM;
            }
            return frost >= settings.valueOf(Settings.FROST_LIMIT) ? DEFROST_BEGUN : STILL_ON;
        }

        private int decideWhileNeeded(Settings settings, boolean tooHot, boolean canWait) {
            if (tooHot) {
                return TOO_HOT;
            }
            if (offMinutes < settings.valueOf(Settings.MIN_OFF)) {
                return KEPT_OFF;
            }
            if (recentStarts >= settings.valueOf(Settings.STARTS)) {
                return STARTED_TOO_OFTEN;
            }
            return canWait ? PEAK_AVOIDED : STARTED;
        }

        void obey(int reason) {
            if (reason == STOPPED_TOO_HOT || reason == STOPPED_WARM) {
                mode = OFF;
                offMinutes = 0;
            } else if (reason == DEFROST_BEGUN) {
                mode = DEFROSTING;
                defrostMinutes = 0;
            } else if (reason == STARTED) {
                mode = ON;
                onMinutes = 0;
            }
        }

        /** Takes the place of the minute an hour ago, which was still counted in the decision. */
        void noteStart(int minute, int started) {
            int place = minute % MINUTES_PER_HOUR;
            recentStarts += started - elementOr(startsByMinute, place, 0);
            replace(startsByMinute, place, started);
        }

        void countMinute() {
            if (mode == OFF) {
                offMinutes++;
            } else {
                onMinutes++;
            }
            if (mode == DEFROSTING) {
                defrostMinutes++;
            }
        }
    }

    /** What has been counted and summed over all simulated minutes. */
    private static final class Accounts {
        final int[] minutesByReason;
        int latestReason;
        int starts;
        int defrosts;
        long produced;
        long defrostHeat;
        long drawn;
        long unmet;
        long lost;
        long electricity;
        long cost;

        Accounts() {
            minutesByReason = new int[Pump.REASONS];
            latestReason = NONE;
        }

        void copyFrom(Accounts other) {
            copyRow(other.minutesByReason, minutesByReason);
            latestReason = other.latestReason;
            starts = other.starts;
            defrosts = other.defrosts;
            produced = other.produced;
            defrostHeat = other.defrostHeat;
            drawn = other.drawn;
            unmet = other.unmet;
            lost = other.lost;
            electricity = other.electricity;
            cost = other.cost;
        }

        void countMinute(int reason) {
            latestReason = reason;
            replace(minutesByReason, reason, elementOr(minutesByReason, reason, 0) + 1);
            if (reason == Pump.STARTED) {
                starts++;
            } else if (reason == Pump.DEFROST_BEGUN) {
                defrosts++;
            }
        }
    }

    /** All that a change records: everything except the text. */
    private static final class Plant {
        private static final int LEAST_HEAT = 500;
        private static final int LEAST_PERCENTAGE = 100, MOST_PERCENTAGE = 700;
        private static final int DEFROST_ELECTRICITY = 200;

        final Settings settings;
        final Weather weather;
        final Curve curve;
        final Buffer buffer;
        final Pump pump;
        final Accounts accounts;
        /** Read anew when an hour or an advance begins, so it is no part of the state. */
        private final Conditions conditions;
        int time;

        Plant() {
            settings = new Settings();
            weather = new Weather();
            curve = new Curve();
            buffer = new Buffer();
            pump = new Pump();
            accounts = new Accounts();
            conditions = new Conditions();
        }

        void copyFrom(Plant other) {
            copyRow(other.settings.values, settings.values);
            weather.copyFrom(other.weather);
            curve.copyFrom(other.curve);
            buffer.copyFrom(other.buffer);
            pump.copyFrom(other.pump);
            accounts.copyFrom(other.accounts);
            time = other.time;
        }

        int demandIn(int hour) {
            int missing = settings.valueOf(Settings.ROOM) - elementOr(weather.outdoors, hour, 0);
            return Math.max(0, (int) div(missing * settings.valueOf(Settings.LOSS), 10));
        }

        int targetIn(int hour) {
            int supply = curve.supplyAt(elementOr(weather.outdoors, hour, 0));
            boolean cheap = elementOr(weather.tariffs, hour, Weather.NORMAL) == Weather.CHEAP;
            return cheap ? supply + settings.valueOf(Settings.BOOST) : supply;
        }

        void advance(int minutes) {
            for (int i = 0; i < minutes; i++) {
                if (i == 0 || time % MINUTES_PER_HOUR == 0) {
                    readConditions(time / MINUTES_PER_HOUR % HOURS);
                }
                simulateMinute();
            }
        }

        private void readConditions(int hour) {
            conditions.outdoor = elementOr(weather.outdoors, hour, 0);
            conditions.tariff = elementOr(weather.tariffs, hour, Weather.NORMAL);
            conditions.price = elementOr(weather.prices, conditions.tariff, 0);
            conditions.demand = demandIn(hour);
            conditions.target = targetIn(hour);
        }

        private void simulateMinute() {
            pump.endDefrosting(settings.valueOf(Settings.DEFROST_TIME));
            int reason = pump.decide(settings, buffer, conditions);
            pump.obey(reason);
            pump.noteStart(time, reason == Pump.STARTED ? 1 : 0);
            accounts.countMinute(reason);
            if (pump.mode == ON) {
                produce();
            } else if (pump.mode == DEFROSTING) {
                defrost();
            }
            long heat = buffer.draw(conditions.demand);
            accounts.drawn += heat;
            accounts.unmet += conditions.demand - heat;
            accounts.lost += buffer.lose(settings.valueOf(Settings.INSULATION));
            buffer.rise();
            buffer.conduct(settings.valueOf(Settings.CONDUCTANCE));
            pump.countMinute();
            time++;
        }

        private void produce() {
            int outdoor = conditions.outdoor;
            long heat = settings.valueOf(Settings.POWER) + div(settings.valueOf(Settings.SLOPE) * outdoor, 10);
            heat = Math.max(LEAST_HEAT, heat);
            long percentage = 350 + 5 * div(outdoor, 10)
                    - 4 * div(buffer.temperatureOf(Buffer.BOTTOM) - 300, 10);
            percentage = Math.max(LEAST_PERCENTAGE, Math.min(MOST_PERCENTAGE, percentage));
            use(div(heat * 100 + percentage - 1, percentage));
            buffer.add(Buffer.BOTTOM, heat);
            accounts.produced += heat;
            if (outdoor < settings.valueOf(Settings.FROST_BELOW)) {
                pump.frost++;
            }
        }

        private void defrost() {
            int heat = settings.valueOf(Settings.DEFROST_POWER);
            buffer.add(Buffer.BOTTOM, -heat);
            accounts.defrostHeat += heat;
            use(DEFROST_ELECTRICITY);
        }

        private void use(long electricity) {
            accounts.electricity += electricity;
            accounts.cost += electricity * conditions.price;
        }
    }

    /** The remembered states, in rows that are used again and again. */
    private static final class History {
        private static final int MOST_STATES = 4;

        private final Plant[] states;
        private int oldest;
        int count;

        History() {
            states = new Plant[MOST_STATES];
            for (int i = 0; i < states.length; i++) {
                states[i] = new Plant();
            }
        }

        int record(Plant plant) {
            if (count == MOST_STATES) {
                oldest = (oldest + 1) % MOST_STATES;
                count--;
            }
            Plant state = stateAt(count);
            if (state != null) {
                state.copyFrom(plant);
                count++;
            }
            return count;
        }

        int restore(Plant plant) {
            if (count == 0) {
                return STATE;
            }
            count--;
            Plant state = stateAt(count);
            if (state != null) {
                plant.copyFrom(state);
            }
            return count;
        }

        private Plant stateAt(int age) {
            int place = (oldest + age) % MOST_STATES;
            return place >= 0 && place < states.length ? states[place] : null;
        }
    }

    /** The text, and its reading as a weather sheet. */
    private static final class WeatherSheet {
        private static final int MOST_CHARACTERS = 100;
        private static final int NO_TARIFF = -1;
        /** What is answered for a fault at the index 0. */
        private static final int FAULT = -10;

        private final int[] codes;
        int length;
        private int position;
        private int firstHour;
        private int lastHour;
        private int outdoor;
        private int tariff;

        WeatherSheet() {
            codes = new int[MOST_CHARACTERS];
        }

        static boolean isCode(int code) {
            return code >= 32 && code <= 126;
        }

        boolean append(int code) {
            if (length >= MOST_CHARACTERS) {
                return false;
            }
            replace(codes, length, code);
            length++;
            return true;
        }

        /** The number of entries, or the error code that loadWeather has to answer. */
        int countEntries() {
            int entries = 0;
            boolean possible = true;
            position = 0;
            while (entries < MOST_CHARACTERS && position < length) {
                if (!readEntry()) {
                    return FAULT - position;
                }
                possible = possible && Weather.isOutdoor(outdoor) && firstHour <= lastHour;
                entries++;
            }
            return possible ? entries : STATE;
        }

        void carryOut(Weather weather) {
            position = 0;
            for (int i = 0; i < MOST_CHARACTERS && position < length && readEntry(); i++) {
                for (int hour = firstHour; hour <= lastHour; hour++) {
                    replace(weather.outdoors, hour, outdoor);
                    if (tariff != NO_TARIFF) {
                        replace(weather.tariffs, hour, tariff);
                    }
                }
            }
        }

        /** If this fails, the position is that of the fault. */
        private boolean readEntry() {
            firstHour = readHour();
            if (firstHour < 0) {
                return false;
            }
            lastHour = firstHour;
            if (accept('-')) {
                lastHour = readHour();
            }
            if (lastHour < 0 || !accept(':')) {
                return false;
            }
            boolean negative = accept('-');
            int number = readNumber();
            if (number < 0) {
                return false;
            }
            outdoor = negative ? -number : number;
            tariff = readTariff();
            return accept(';');
        }

        private int readHour() {
            int hour = readDigit(9);
            if (hour != 1 && hour != 2) {
                return hour;
            }
            int digit = readDigit(hour == 1 ? 9 : 3);
            return digit < 0 ? hour : 10 * hour + digit;
        }

        private int readNumber() {
            int number = readDigit(9);
            if (number <= 0) {
                return number;
            }
            for (int i = 0; i < 2; i++) {
                int digit = readDigit(9);
                if (digit < 0) {
                    return number;
                }
                number = 10 * number + digit;
            }
            return number;
        }

        private int readTariff() {
            if (accept('c')) {
                return Weather.CHEAP;
            }
            if (accept('n')) {
                return Weather.NORMAL;
            }
            return accept('p') ? Weather.PEAK : NO_TARIFF;
        }

        /** The digit that stands here, and goes on behind it; or -1, and stays, if there is none up to the highest. */
        private int readDigit(int highest) {
            int digit = codeHere() - '0';
            if (digit < 0 || digit > highest) {
                return -1;
            }
            position++;
            return digit;
        }

        private boolean accept(int code) {
            if (codeHere() != code) {
                return false;
            }
            position++;
            return true;
        }

        private int codeHere() {
            return position < length ? elementOr(codes, position, 0) : 0;
        }
    }
}
