/**
 * A controller for a climate chamber: it follows programs of segments with ramps and guaranteed
 * soaks, controls temperature and humidity, and keeps an audit trail.
 *
 * <p>Temperatures are in tenths of a degree, humidities in tenths of a percent, times in minutes.
 */
public final class ClimateChamber {

    /** There is no such value. */
    public static final int NONE = -10000;

    private static final int HEATER_POWER = 0;
    private static final int COOLER_POWER = 1;
    private static final int HUMIDIFIER_POWER = 2;
    private static final int DRYER_POWER = 3;
    private static final int LOSS = 4;
    private static final int COUPLING = 5;
    private static final int TEMPERATURE_TOLERANCE = 6;
    private static final int HUMIDITY_TOLERANCE = 7;
    private static final int REST = 8;
    private static final int AMBIENT_TEMPERATURE = 9;
    private static final int AMBIENT_HUMIDITY = 10;
    private static final int PATIENCE = 11;

    private static final int[] INITIAL_SETTINGS = {20, 15, 10, 10, 2, 3, 5, 20, 3, 200, 400, 60};
    private static final int[] LEAST_SETTINGS = {1, 1, 1, 1, 0, 0, 0, 0, 0, -200, 0, 0};
    private static final int[] GREATEST_SETTINGS =
        {50, 50, 50, 50, 20, 20, 100, 200, 30, 500, 1000, 1000};

    private static final int CHANNELS = 2;
    private static final int MODES = 3;

    private static final int IDLE = 0;
    private static final int RAMP = 1;
    private static final int SOAK = 2;
    private static final int DONE = 3;
    private static final int FAILED = 4;

    private static final int PROGRAM_STARTS = 1;
    private static final int SEGMENT_BEGINS = 2;
    private static final int SEGMENT_COMPLETE = 3;
    private static final int PROGRAM_DONE = 4;
    private static final int PROGRAM_FAILS = 5;
    private static final int PROGRAM_STOPPED = 6;
    private static final int DOOR_OPENED = 7;
    private static final int DOOR_CLOSED = 8;
    private static final int OUTPUT_BLOCKED = 9;

    private static final int TARGET_TEMPERATURE = 0;
    private static final int TARGET_HUMIDITY = 1;
    private static final int RAMP_MINUTES = 2;
    private static final int SOAK_MINUTES = 3;

    private static final int LATEST_TIME = 20000;
    private static final int DOOR_LEAK = 25;

    private final State now = new State();
    /** Takes a copy of the present state when a question asks what would be. */
    private final State trial = new State();
    private final SavedStates saved = new SavedStates();
    private final Text text = new Text();

    /** Creates a chamber at the time 0, without segments. */
    public ClimateChamber() {
    }

    // ---- settings and actions

    /** Changes a setting and returns its previous value. Undoable. */
    public int set(int index, int value)
            throws IndexOutOfBoundsException, IllegalArgumentException {
        requireIndex(index, INITIAL_SETTINGS.length);
        requireArgument(isWithin(value, at(LEAST_SETTINGS, index), at(GREATEST_SETTINGS, index)));
        int previous = at(now.settings, index);
        saved.keep(now);
        put(now.settings, index, value);
        return previous;
    }

    /** Changes how a channel is controlled and returns its previous mode. Undoable. */
    public int setMode(int channel, int mode, int gain, int band)
            throws IndexOutOfBoundsException, IllegalArgumentException {
        requireIndex(channel, CHANNELS);
        requireArgument(isWithin(mode, 0, MODES - 1) && isWithin(gain, 1, 100)
            && isWithin(band, 0, 50));
        Channel changed = channel == 0 ? now.temperatureChannel : now.humidityChannel;
        int previous = changed.mode;
        saved.keep(now);
        changed.mode = mode;
        changed.gain = gain;
        changed.band = band;
        return previous;
    }

    /** Sets the set points and returns the previous one of the temperature. Undoable. */
    public int setPoints(int temperature, int humidity)
            throws IllegalArgumentException, IllegalStateException {
        requireArgument(isTarget(temperature, humidity));
        requireState(!now.run.isRunning());
        int previous = now.climate.temperaturePoint;
        saved.keep(now);
        now.climate.temperaturePoint = temperature;
        now.climate.humidityPoint = humidity;
        return previous;
    }

    /** Opens or closes the door and returns the time. Undoable. */
    public int door(boolean open) throws IllegalStateException {
        requireState(now.climate.doorOpen != open);
        saved.keep(now);
        now.climate.doorOpen = open;
        now.trail.write(open ? DOOR_OPENED : DOOR_CLOSED, 0, now.time);
        return now.time;
    }

    /** Lets minutes pass and returns the temperature then. Undoable. */
    public int pass(int minutes) throws IllegalArgumentException, IllegalStateException {
        requireArgument(isWithin(minutes, 1, 500));
        requireState(now.time + minutes <= LATEST_TIME);
        saved.keep(now);
        for (int i = 0; i < minutes; i++) {
            now.letMinutePass();
        }
        return now.climate.temperature;
    }

    // ---- programs

    /** Adds a segment behind the others and returns its number. Undoable. */
    public int addSegment(int temperature, int humidity, int ramp, int soak)
            throws IllegalArgumentException, IllegalStateException {
        requireArgument(isSegment(temperature, humidity, ramp, soak));
        requireState(!now.run.isRunning() && !now.segments.isFull());
        int number = now.segments.count;
        saved.keep(now);
        now.segments.add(temperature, humidity, ramp, soak);
        return number;
    }

    /** Removes a segment and returns the number of those that remain. Undoable. */
    public int removeSegment(int segment)
            throws IndexOutOfBoundsException, IllegalStateException {
        requireIndex(segment, now.segments.count);
        requireState(!now.run.isRunning());
        saved.keep(now);
        now.segments.remove(segment);
        return now.segments.count;
    }

    /** Sets the number of cycles and returns the previous one. Undoable. */
    public int setCycles(int cycles) throws IllegalArgumentException, IllegalStateException {
        requireArgument(isWithin(cycles, 1, 20));
        requireState(!now.run.isRunning());
        int previous = now.cycles;
        saved.keep(now);
        now.cycles = cycles;
        return previous;
    }

    /** Starts the program and returns the number of segments. Undoable. */
    public int start() throws IllegalStateException {
        requireState(!now.run.isRunning() && now.segments.count > 0);
        saved.keep(now);
        now.startProgram();
        return now.segments.count;
    }

    /** Stops the program and returns the number of the segment that ran. Undoable. */
    public int stop() throws IllegalStateException {
        requireState(now.run.isRunning());
        saved.keep(now);
        now.trail.write(PROGRAM_STOPPED, now.run.segment, now.time);
        now.run.end(IDLE);
        return now.run.segment;
    }

    /** Holds the program, or lets it go on, and returns the phase. Undoable. */
    public int hold(boolean held) throws IllegalStateException {
        requireState(now.run.isRunning() && now.run.held != held);
        saved.keep(now);
        now.run.held = held;
        return now.run.phase;
    }

    /** Restores the state that was saved last and returns how many saved states remain. */
    public int undo() throws IllegalStateException {
        requireState(saved.count > 0);
        saved.restore(now);
        return saved.count;
    }

    // ---- what there is

    /** Returns one of the values 0 (time) to 24 (length of the text), as README.md lists them. */
    public int value(int what) throws IllegalArgumentException {
        requireArgument(isWithin(what, 0, 24));
        if (what == 23) {
            return saved.count;
        }
        if (what == 24) {
            return text.length;
        }
        return what >= 13 && what <= 20 ? now.climate.tally(what) : now.present(what);
    }

    /** Returns the value of a setting. */
    public int setting(int index) throws IndexOutOfBoundsException {
        requireIndex(index, INITIAL_SETTINGS.length);
        return at(now.settings, index);
    }

    /** Returns a property of a segment: target temperature and humidity, ramp and soak minutes. */
    public int segment(int segment, int property)
            throws IndexOutOfBoundsException, IllegalArgumentException {
        requireIndex(segment, now.segments.count);
        requireArgument(isWithin(property, TARGET_TEMPERATURE, SOAK_MINUTES));
        return now.segments.property(segment, property);
    }

    /** Returns a property of a result: segment, cycle, minutes, paused minutes; 0 is the latest. */
    public int result(int index, int property) throws IllegalArgumentException {
        requireArgument(index >= 0 && isWithin(property, 0, 3));
        return now.results.property(index, property);
    }

    /** Returns a property of an entry of the audit trail: kind, number, time; 0 is the latest. */
    public int audit(int index, int property) throws IllegalArgumentException {
        requireArgument(index >= 0 && isWithin(property, 0, 2));
        return now.trail.property(index, property);
    }

    /** Returns the audit code. */
    public long auditCode() {
        return now.trail.code;
    }

    /** Returns a temperature of the history; 0 is the latest minute. */
    public int history(int back) throws IllegalArgumentException {
        requireArgument(back >= 0);
        return now.temperatures.latest(back);
    }

    /** Returns the greatest minus the smallest of the latest temperatures. */
    public int spread(int minutes) throws IllegalArgumentException {
        requireArgument(isWithin(minutes, 1, Ring.HISTORY));
        int count = Math.min(minutes, now.temperatures.kept);
        if (count == 0) {
            return 0;
        }
        int least = now.temperatures.latest(0);
        int greatest = least;
        for (int back = 1; back < count; back++) {
            least = Math.min(least, now.temperatures.latest(back));
            greatest = Math.max(greatest, now.temperatures.latest(back));
        }
        return greatest - least;
    }

    /** Returns the mean of the latest temperatures. */
    public double mean(int minutes) throws IllegalArgumentException {
        requireArgument(isWithin(minutes, 1, Ring.HISTORY));
        int count = Math.min(minutes, now.temperatures.kept);
        if (count == 0) {
            return 0.0;
        }
        int sum = 0;
        for (int back = 0; back < count; back++) {
            sum += now.temperatures.latest(back);
        }
        return (double) sum / (double) count;
    }

    // ---- what would be; nothing changes, and the limit of time does not apply

    /** Returns the temperature (channel 0) or the humidity (1) after some minutes. */
    public int valueIn(int channel, int minutes)
            throws IndexOutOfBoundsException, IllegalArgumentException {
        requireIndex(channel, CHANNELS);
        requireArgument(isWithin(minutes, 0, 300));
        trial.copy(now);
        for (int i = 0; i < minutes; i++) {
            trial.letMinutePass();
        }
        return channel == 0 ? trial.climate.temperature : trial.climate.humidity;
    }

    /** Returns in how many minutes the program would be done; NONE if not in 1000. */
    public int doneIn() throws IllegalStateException {
        requireState(now.run.isRunning());
        trial.copy(now);
        for (int minutes = 1; minutes <= 1000 && trial.run.goesOn(); minutes++) {
            trial.letMinutePass();
            if (trial.run.phase == DONE) {
                return minutes;
            }
        }
        return NONE;
    }

    /** Returns in how many minutes a temperature would be reached; NONE if not in 500. */
    public int reachIn(int temperature) throws IllegalArgumentException {
        requireArgument(isTargetTemperature(temperature));
        trial.copy(now);
        trial.run.end(IDLE);
        trial.climate.doorOpen = false;
        trial.climate.temperaturePoint = temperature;
        int tolerance = at(trial.settings, TEMPERATURE_TOLERANCE);
        for (int minutes = 0; minutes < 500; minutes++) {
            if (trial.climate.temperatureOffset() <= tolerance) {
                return minutes;
            }
            trial.letMinutePass();
        }
        return trial.climate.temperatureOffset() <= tolerance ? 500 : NONE;
    }

    /** Returns the mode of the temperature channel that would keep nearest to the set point. */
    public int bestMode(int minutes) throws IllegalArgumentException {
        requireArgument(isWithin(minutes, 1, 200));
        int best = 0;
        int least = 0;
        for (int mode = 0; mode < MODES; mode++) {
            trial.copy(now);
            trial.temperatureChannel.mode = mode;
            int sum = 0;
            for (int i = 0; i < minutes; i++) {
                trial.letMinutePass();
                sum += trial.climate.temperatureOffset();
            }
            if (mode == 0 || sum < least) {
                least = sum;
                best = mode;
            }
        }
        return best;
    }

    // ---- text

    /** Appends a character to the buffer and returns the length of the text. */
    public int append(int code) throws IllegalArgumentException, IllegalStateException {
        requireArgument(isWithin(code, 32, 126));
        requireState(!text.isFull());
        text.add(code);
        return text.length;
    }

    /** Empties the buffer and returns the length that the text had. */
    public int clear() {
        int previous = text.length;
        text.length = 0;
        return previous;
    }

    /** Returns the error position of the text; NONE if it has no error. */
    public int errorPosition() {
        return text.findError();
    }

    /** Replaces all segments by those of the text and returns their number. Undoable. */
    public int load() throws IllegalArgumentException, IllegalStateException {
        requireArgument(text.findError() == NONE);
        requireState(!now.run.isRunning());
        saved.keep(now);
        now.segments.copy(text.segments);
        text.length = 0;
        return now.segments.count;
    }

    // ---- what every part uses

    private static void requireIndex(int index, int count) {
        if (index < 0 || index >= count) {
            throw new IndexOutOfBoundsException("there is no such index");
        }
    }

    private static void requireArgument(boolean allowed) {
        if (!allowed) {
            throw new IllegalArgumentException("an argument is out of range");
        }
    }

    private static void requireState(boolean allowed) {
        if (!allowed) {
            throw new IllegalStateException("the call is not allowed now");
        }
    }

    private static boolean isWithin(int number, int least, int greatest) {
        return number >= least && number <= greatest;
    }

    private static int limit(int number, int least, int greatest) {
        return Math.max(least, Math.min(greatest, number));
    }

    private static boolean isTargetTemperature(int temperature) {
        return isWithin(temperature, -400, 1800);
    }

    private static boolean isTarget(int temperature, int humidity) {
        return isTargetTemperature(temperature) && isWithin(humidity, 0, 1000);
    }

    private static boolean isSegment(int temperature, int humidity, int ramp, int soak) {
        return isTarget(temperature, humidity) && isWithin(ramp, 0, 500) && isWithin(soak, 0, 500)
            && ramp + soak > 0;
    }

    private static int at(int[] row, int index) {
        return index >= 0 && index < row.length ? row[index] : NONE;
    }

    private static void put(int[] row, int index, int number) {
        if (index >= 0 && index < row.length) {
            row[index] = number;
        }
    }

    private static void copyRow(int[] from, int[] to) {
        System.arraycopy(from, 0, to, 0, Math.min(from.length, to.length));
    }

    /** How one of the two values is controlled. */
    private static final class Channel {
        int mode = 0;
        int gain = 50;
        int band = 2;

        int demand(int error, int raisingPower, int loweringPower) {
            return limit(unlimitedDemand(error), -loweringPower, raisingPower);
        }

        private int unlimitedDemand(int error) {
            if (mode == 1) {
                return error * gain / 100;
            }
            if (error >= -band && error <= band) {
                return 0;
            }
            if (mode == 0) {
                return error;
            }
            return error > 0 ? 1000 : -1000;
        }

        void copy(Channel other) {
            mode = other.mode;
            gain = other.gain;
            band = other.band;
        }
    }

    /** The segments of a program. */
    private static final class Segments {
        static final int MOST = 12;
        static final int PROPERTIES = 4;

        private final int[] cells = new int[MOST * PROPERTIES];
        int count;

        boolean isFull() {
            return count >= MOST;
        }

        int property(int number, int property) {
            return at(cells, number * PROPERTIES + property);
        }

        void add(int temperature, int humidity, int ramp, int soak) {
            if (isFull()) {
                return;
            }
            int place = count * PROPERTIES;
            put(cells, place + TARGET_TEMPERATURE, temperature);
            put(cells, place + TARGET_HUMIDITY, humidity);
            put(cells, place + RAMP_MINUTES, ramp);
            put(cells, place + SOAK_MINUTES, soak);
            count++;
        }

        void remove(int number) {
            for (int place = number * PROPERTIES; place < (count - 1) * PROPERTIES; place++) {
                put(cells, place, at(cells, place + PROPERTIES));
            }
            count--;
        }

        void copy(Segments other) {
            copyRow(other.cells, cells);
            count = other.count;
        }
    }

    /** The latest ones of a row of numbers. */
    private static final class Ring {
        static final int RESULTS = 16;
        static final int ENTRIES = 24;
        static final int HISTORY = 60;

        private final int[] cells;
        private int next;
        int kept;

        Ring(int most) {
            cells = new int[Math.max(0, most)];
        }

        void add(int number) {
            if (next < 0 || next >= cells.length) {
                return;
            }
            cells[next] = number;
            next = next + 1 < cells.length ? next + 1 : 0;
            if (kept < cells.length) {
                kept++;
            }
        }

        int latest(int back) {
            if (back < 0 || back >= kept) {
                return NONE;
            }
            int place = next - 1 - back;
            return at(cells, place < 0 ? place + cells.length : place);
        }

        void copy(Ring other) {
            copyRow(other.cells, cells);
            next = other.next;
            kept = other.kept;
        }
    }

    /** The results of the latest complete segments. */
    private static final class Results {
        private final Ring segments = new Ring(Ring.RESULTS);
        private final Ring cycles = new Ring(Ring.RESULTS);
        private final Ring minutes = new Ring(Ring.RESULTS);
        private final Ring pausedMinutes = new Ring(Ring.RESULTS);

        void add(Run run, int end) {
            segments.add(run.segment);
            cycles.add(run.cycle);
            minutes.add(end - run.beginning);
            pausedMinutes.add(run.pausedMinutes);
        }

        int property(int index, int property) {
            switch (property) {
                case 0: return segments.latest(index);
                case 1: return cycles.latest(index);
                case 2: return minutes.latest(index);
                default: return pausedMinutes.latest(index);
            }
        }

        void copy(Results other) {
            segments.copy(other.segments);
            cycles.copy(other.cycles);
            minutes.copy(other.minutes);
            pausedMinutes.copy(other.pausedMinutes);
        }
    }

    /** The audit trail. */
    private static final class Trail {
        private final Ring kinds = new Ring(Ring.ENTRIES);
        private final Ring numbers = new Ring(Ring.ENTRIES);
        private final Ring times = new Ring(Ring.ENTRIES);
        long code = 17;

        void write(int kind, int number, int time) {
            kinds.add(kind);
            numbers.add(number);
            times.add(time);
            code = 31 * code + 1000 * kind + number;
        }

        int property(int index, int property) {
            switch (property) {
                case 0: return kinds.latest(index);
                case 1: return numbers.latest(index);
                default: return times.latest(index);
            }
        }

        void copy(Trail other) {
            kinds.copy(other.kinds);
            numbers.copy(other.numbers);
            times.copy(other.times);
            code = other.code;
        }
    }

    /** How far the program has come. */
    private static final class Run {
        int phase = IDLE;
        boolean held;
        int segment;
        int cycle;
        int rampClock;
        int soakClock;
        int pausedMinutes;
        int beginning;
        int startTemperature;
        int startHumidity;

        boolean isRunning() {
            return phase == RAMP || phase == SOAK;
        }

        boolean goesOn() {
            return isRunning() && !held;
        }

        void end(int lastPhase) {
            phase = lastPhase;
            held = false;
        }

        void copy(Run other) {
            phase = other.phase;
            held = other.held;
            segment = other.segment;
            cycle = other.cycle;
            rampClock = other.rampClock;
            soakClock = other.soakClock;
            pausedMinutes = other.pausedMinutes;
            beginning = other.beginning;
            startTemperature = other.startTemperature;
            startHumidity = other.startHumidity;
        }
    }

    /** The chamber itself: its values, its set points, its door and what its machines have done. */
    private static final class Climate {
        private static final int LONGEST_REST = 1000;

        int temperature = 200;
        int humidity = 400;
        int temperaturePoint = 200;
        int humidityPoint = 400;
        boolean doorOpen;
        /** Whether the latest minute was blocked: of blocked minutes in a row, the first is told. */
        boolean wasBlocked;
        int blockedMinutes;
        int heaterRest = LONGEST_REST;
        int coolerRest = LONGEST_REST;
        int heaterMinutes;
        int coolerMinutes;
        int humidifierMinutes;
        int dryerMinutes;
        int energy;

        int temperatureOffset() {
            return Math.abs(temperaturePoint - temperature);
        }

        int humidityOffset() {
            return Math.abs(humidityPoint - humidity);
        }

        void change(int temperatureChange, int humidityChange) {
            temperature = limit(temperature + temperatureChange, -700, 2000);
            humidity = limit(humidity + humidityChange, 0, 1000);
        }

        void count(int output, int moistureOutput) {
            heaterRest = output > 0 ? 0 : Math.min(heaterRest + 1, LONGEST_REST);
            coolerRest = output < 0 ? 0 : Math.min(coolerRest + 1, LONGEST_REST);
            heaterMinutes += output > 0 ? 1 : 0;
            coolerMinutes += output < 0 ? 1 : 0;
            humidifierMinutes += moistureOutput > 0 ? 1 : 0;
            dryerMinutes += moistureOutput < 0 ? 1 : 0;
            energy += Math.abs(output) + Math.abs(moistureOutput);
        }

        int tally(int what) {
            switch (what) {
                case 13: return heaterMinutes;
                case 14: return coolerMinutes;
                case 15: return humidifierMinutes;
                case 16: return dryerMinutes;
                case 17: return blockedMinutes;
                case 18: return heaterRest;
                case 19: return coolerRest;
                case 20: return energy;
                default: return NONE;
            }
        }

        void copy(Climate other) {
            temperature = other.temperature;
            humidity = other.humidity;
            temperaturePoint = other.temperaturePoint;
            humidityPoint = other.humidityPoint;
            doorOpen = other.doorOpen;
            wasBlocked = other.wasBlocked;
            blockedMinutes = other.blockedMinutes;
            heaterRest = other.heaterRest;
            coolerRest = other.coolerRest;
            heaterMinutes = other.heaterMinutes;
            coolerMinutes = other.coolerMinutes;
            humidifierMinutes = other.humidifierMinutes;
            dryerMinutes = other.dryerMinutes;
            energy = other.energy;
        }
    }

    /** All that undo brings back. */
    private static final class State {
        int time;
        int cycles = 1;
        final int[] settings = INITIAL_SETTINGS.clone();
        final Channel temperatureChannel = new Channel();
        final Channel humidityChannel = new Channel();
        final Segments segments = new Segments();
        final Run run = new Run();
        final Climate climate = new Climate();
        final Results results = new Results();
        final Trail trail = new Trail();
        final Ring temperatures = new Ring(Ring.HISTORY);

        void letMinutePass() {
            moveSetPoints();
            int output = allowedOutput();
            int coupledChange = -output * at(settings, COUPLING) / 10;
            int moistureOutput = moistureDemand(coupledChange);
            int lostTemperature = lost(at(settings, AMBIENT_TEMPERATURE) - climate.temperature);
            int lostHumidity = lost(at(settings, AMBIENT_HUMIDITY) - climate.humidity);
            climate.change(output + lostTemperature,
                coupledChange + moistureOutput + lostHumidity);
            climate.count(output, moistureOutput);
            temperatures.add(climate.temperature);
            followProgram();
            time++;
        }

        private void moveSetPoints() {
            if (!run.goesOn()) {
                return;
            }
            int temperature = segments.property(run.segment, TARGET_TEMPERATURE);
            int humidity = segments.property(run.segment, TARGET_HUMIDITY);
            if (run.phase == RAMP) {
                run.rampClock++;
                temperature = onRamp(run.startTemperature, temperature);
                humidity = onRamp(run.startHumidity, humidity);
            }
            climate.temperaturePoint = temperature;
            climate.humidityPoint = humidity;
        }

        private int onRamp(int start, int target) {
            int minutes = segments.property(run.segment, RAMP_MINUTES);
            return minutes > 0 ? start + (target - start) * run.rampClock / minutes : target;
        }

        private int allowedOutput() {
            if (climate.doorOpen) {
                climate.wasBlocked = false;
                return 0;
            }
            int output = temperatureChannel.demand(climate.temperaturePoint - climate.temperature,
                at(settings, HEATER_POWER), at(settings, COOLER_POWER));
            int rest = at(settings, REST);
            boolean heatingBlocked = output > 0 && climate.coolerRest < rest;
            boolean coolingBlocked = output < 0 && climate.heaterRest < rest;
            boolean blocked = heatingBlocked || coolingBlocked;
            if (blocked) {
                climate.blockedMinutes++;
            }
            if (blocked && !climate.wasBlocked) {
                trail.write(OUTPUT_BLOCKED, heatingBlocked ? 1 : 2, time);
            }
            climate.wasBlocked = blocked;
            return blocked ? 0 : output;
        }

        private int moistureDemand(int coupledChange) {
            if (climate.doorOpen) {
                return 0;
            }
            int error = climate.humidityPoint - climate.humidity - coupledChange;
            return humidityChannel.demand(error,
                at(settings, HUMIDIFIER_POWER), at(settings, DRYER_POWER));
        }

        private int lost(int difference) {
            int leak = at(settings, LOSS) + (climate.doorOpen ? DOOR_LEAK : 0);
            return difference * leak / 100;
        }

        private void followProgram() {
            if (!run.goesOn()) {
                return;
            }
            boolean complete = run.phase == RAMP ? followRamp() : followSoak();
            if (complete) {
                finishSegment();
            } else if (run.pausedMinutes > at(settings, PATIENCE)) {
                trail.write(PROGRAM_FAILS, run.segment, time);
                run.end(FAILED);
            }
        }

        /** Returns whether the segment is complete. */
        private boolean followRamp() {
            if (run.rampClock < segments.property(run.segment, RAMP_MINUTES)) {
                return false;
            }
            run.phase = SOAK;
            return segments.property(run.segment, SOAK_MINUTES) == 0;
        }

        /** Returns whether the segment is complete. */
        private boolean followSoak() {
            boolean withinTolerance =
                climate.temperatureOffset() <= at(settings, TEMPERATURE_TOLERANCE)
                && climate.humidityOffset() <= at(settings, HUMIDITY_TOLERANCE);
            if (withinTolerance) {
                run.soakClock++;
            } else {
                run.pausedMinutes++;
            }
            return run.soakClock >= segments.property(run.segment, SOAK_MINUTES);
        }

        void startProgram() {
            run.held = false;
            trail.write(PROGRAM_STARTS, segments.count, time);
            beginSegment(0, 1, time);
        }

        /** The next segment begins where the minute ends, but is told at the minute's time. */
        private void finishSegment() {
            trail.write(SEGMENT_COMPLETE, run.pausedMinutes, time);
            results.add(run, time + 1);
            if (run.segment + 1 < segments.count) {
                beginSegment(run.segment + 1, run.cycle, time + 1);
            } else if (run.cycle < cycles) {
                beginSegment(0, run.cycle + 1, time + 1);
            } else {
                trail.write(PROGRAM_DONE, cycles, time);
                run.end(DONE);
            }
        }

        private void beginSegment(int number, int cycle, int beginning) {
            run.segment = number;
            run.cycle = cycle;
            run.beginning = beginning;
            run.startTemperature = climate.temperature;
            run.startHumidity = climate.humidity;
            run.rampClock = 0;
            run.soakClock = 0;
            run.pausedMinutes = 0;
            run.phase = segments.property(number, RAMP_MINUTES) > 0 ? RAMP : SOAK;
            trail.write(SEGMENT_BEGINS, number, time);
        }

        int present(int what) {
            switch (what) {
                case 0: return time;
                case 1: return climate.temperature;
                case 2: return climate.humidity;
                case 3: return climate.temperaturePoint;
                case 4: return climate.humidityPoint;
                case 5: return run.phase;
                case 6: return run.held ? 1 : 0;
                case 7: return climate.doorOpen ? 1 : 0;
                case 8: return run.isRunning() ? run.segment : NONE;
                case 9: return run.isRunning() ? run.cycle : NONE;
                case 10: return run.rampClock;
                case 11: return run.soakClock;
                case 12: return run.pausedMinutes;
                case 21: return segments.count;
                case 22: return cycles;
                default: return NONE;
            }
        }

        void copy(State other) {
            time = other.time;
            cycles = other.cycles;
            copyRow(other.settings, settings);
            temperatureChannel.copy(other.temperatureChannel);
            humidityChannel.copy(other.humidityChannel);
            segments.copy(other.segments);
            run.copy(other.run);
            climate.copy(other.climate);
            results.copy(other.results);
            trail.copy(other.trail);
            temperatures.copy(other.temperatures);
        }
    }

    /** The states that undo can bring back, the oldest of which give way to new ones. */
    private static final class SavedStates {
        private final State[] states = new State[6];
        private int next;
        int count;

        void keep(State state) {
            if (next < 0 || next >= states.length) {
                return;
            }
            State slot = states[next];
            if (slot == null) {
                slot = new State();
                states[next] = slot;
            }
            slot.copy(state);
            next = next + 1 < states.length ? next + 1 : 0;
            count = Math.min(count + 1, states.length);
        }

        void restore(State state) {
            int place = next > 0 ? next - 1 : states.length - 1;
            State slot = place >= 0 && place < states.length ? states[place] : null;
            if (count <= 0 || slot == null) {
                return;
            }
            state.copy(slot);
            next = place;
            count--;
        }
    }

    /** The buffer, and the reader of the segments in it. */
    private static final class Text {
        private static final int MOST = 90;
        private static final int MOST_DIGITS = 4;

        private final int[] codes = new int[MOST];
        int length;
        /** The segments that findError has read. */
        final Segments segments = new Segments();
        private int place;
        private int number;
        private int firstOutOfRange;

        boolean isFull() {
            return length >= MOST;
        }

        void add(int code) {
            put(codes, length, code);
            length++;
        }

        int findError() {
            segments.count = 0;
            place = 0;
            firstOutOfRange = NONE;
            for (int i = 0; i < Segments.MOST; i++) {
                if (!readSegment()) {
                    return place;
                }
                if (place >= length) {
                    return firstOutOfRange;
                }
            }
            return place;
        }

        private boolean readSegment() {
            int start = place;
            if (!readSign('t')) {
                return false;
            }
            boolean negative = readSign('-');
            if (!readNumber()) {
                return false;
            }
            int temperature = negative ? -number : number;
            if (!readSign('h') || !readNumber()) {
                return false;
            }
            int humidity = number;
            if (!readSign('r') || !readNumber()) {
                return false;
            }
            int ramp = number;
            if (!readSign('s') || !readNumber() || !readSign(';')) {
                return false;
            }
            if (firstOutOfRange == NONE && !isSegment(temperature, humidity, ramp, number)) {
                firstOutOfRange = start;
            }
            segments.add(temperature, humidity, ramp, number);
            return true;
        }

        private boolean readSign(char sign) {
            if (place >= length || at(codes, place) != sign) {
                return false;
            }
            place++;
            return true;
        }

        private boolean readNumber() {
            number = 0;
            int digits = 0;
            while (digits < MOST_DIGITS && place < length
                    && isWithin(at(codes, place), '0', '9')) {
                number = number * 10 + at(codes, place) - '0';
                place++;
                digits++;
            }
            return digits > 0;
        }
    }
}
