import java.util.ArrayList;
import java.util.Arrays;
import java.util.LinkedHashMap;
import java.util.List;
import java.util.Map;
import java.util.regex.Matcher;
import java.util.regex.Pattern;

/**
 * The document once more, as slow and as literal as can be: names in a map, nothing forgotten, every
 * text read by a pattern. RandomRunTests and EveryCallTests compare the class with it.
 */
final class Model {

    static final int NONE = -10000;

    static final int[] FIRST = {20, 15, 10, 10, 2, 3, 5, 20, 3, 200, 400, 60};
    static final int[] LOW = {1, 1, 1, 1, 0, 0, 0, 0, 0, -200, 0, 0};
    static final int[] HIGH = {50, 50, 50, 50, 20, 20, 100, 200, 30, 500, 1000, 1000};

    private static final String[] VALUES = {"time", "t", "h", "spT", "spH", "phase", "held", "open",
        "segment", "cycle", "rampClock", "soakClock", "paused", "heater", "cooler", "humidifier",
        "dryer", "blocked", "heaterRest", "coolerRest", "energy"};

    /** All that undo restores. */
    private static final class World {
        final Map<String, Integer> n = new LinkedHashMap<>();
        final List<int[]> segments = new ArrayList<>();
        final List<int[]> results = new ArrayList<>();
        final List<int[]> entries = new ArrayList<>();
        final List<Integer> history = new ArrayList<>();
        long code = 17;

        World copy() {
            World w = new World();
            w.n.putAll(n);
            w.segments.addAll(segments);
            w.results.addAll(results);
            w.entries.addAll(entries);
            w.history.addAll(history);
            w.code = code;
            return w;
        }

        int get(String name) {
            return n.get(name);
        }

        void put(String name, int value) {
            n.put(name, value);
        }

        void inc(String name, int by) {
            n.merge(name, by, Integer::sum);
        }

        boolean runs() {
            return get("phase") == 1 || get("phase") == 2;
        }

        void entry(int kind, int number) {
            entries.add(new int[] {kind, number, get("time")});
            code = code * 31L + kind * 1000L + number;
        }

        int demand(String channel, int error, int up, int down) {
            int mode = get("mode" + channel);
            int band = get("band" + channel);
            int demand = 0;
            if (mode == 0 && Math.abs(error) > band) {
                demand = error;
            }
            if (mode == 1) {
                demand = error * get("gain" + channel) / 100;
            }
            if (mode == 2 && error > band) {
                demand = 1000;
            }
            if (mode == 2 && error < -band) {
                demand = -1000;
            }
            if (demand > up) {
                demand = up;
            }
            if (demand < -down) {
                demand = -down;
            }
            return demand;
        }

        void begin(int number, int cycle, int at) {
            put("segment", number);
            put("cycle", cycle);
            put("startT", get("t"));
            put("startH", get("h"));
            put("rampClock", 0);
            put("soakClock", 0);
            put("paused", 0);
            put("begun", at);
            put("phase", segments.get(number)[2] == 0 ? 2 : 1);
            entry(2, number);
        }

        void complete() {
            int end = get("time") + 1;
            entry(3, get("paused"));
            results.add(new int[] {get("segment"), get("cycle"), end - get("begun"),
                get("paused")});
            if (get("segment") + 1 < segments.size()) {
                begin(get("segment") + 1, get("cycle"), end);
            } else if (get("cycle") < get("cycles")) {
                begin(0, get("cycle") + 1, end);
            } else {
                entry(4, get("cycles"));
                put("phase", 3);
            }
        }

        void minute() {
            boolean active = runs() && get("held") == 0;
            int[] segment = runs() ? segments.get(get("segment")) : new int[4];
            // 1
            if (active && get("phase") == 1) {
                inc("rampClock", 1);
                put("spT", get("startT")
                    + (segment[0] - get("startT")) * get("rampClock") / segment[2]);
                put("spH", get("startH")
                    + (segment[1] - get("startH")) * get("rampClock") / segment[2]);
            } else if (active) {
                put("spT", segment[0]);
                put("spH", segment[1]);
            }
            // 2
            boolean closed = get("open") == 0;
            int output = closed ? demand("T", get("spT") - get("t"), get("s0"), get("s1")) : 0;
            int blocked = 0;
            if (output > 0 && get("coolerRest") < get("s8")) {
                blocked = 1;
            } else if (output < 0 && get("heaterRest") < get("s8")) {
                blocked = 2;
            }
            if (blocked != 0) {
                output = 0;
                inc("blocked", 1);
                if (get("before") == 0) {
                    entry(9, blocked);
                }
            }
            put("before", blocked);
            // 3
            int coupled = -output * get("s5") / 10;
            int moisture = closed
                ? demand("H", get("spH") - get("h") - coupled, get("s2"), get("s3")) : 0;
            // 4
            int leak = get("s4") + (closed ? 0 : 25);
            int lostT = (get("s9") - get("t")) * leak / 100;
            int lostH = (get("s10") - get("h")) * leak / 100;
            // 5
            put("t", Math.max(-700, Math.min(2000, get("t") + output + lostT)));
            put("h", Math.max(0, Math.min(1000, get("h") + coupled + moisture + lostH)));
            // 6
            put("heaterRest", output > 0 ? 0 : Math.min(1000, get("heaterRest") + 1));
            put("coolerRest", output < 0 ? 0 : Math.min(1000, get("coolerRest") + 1));
            inc("heater", output > 0 ? 1 : 0);
            inc("cooler", output < 0 ? 1 : 0);
            inc("humidifier", moisture > 0 ? 1 : 0);
            inc("dryer", moisture < 0 ? 1 : 0);
            inc("energy", Math.abs(output) + Math.abs(moisture));
            history.add(get("t"));
            // 7
            if (active && get("phase") == 1) {
                if (get("rampClock") == segment[2]) {
                    put("phase", 2);
                    if (segment[3] == 0) {
                        complete();
                    }
                }
            } else if (active) {
                boolean near = Math.abs(get("spT") - get("t")) <= get("s6")
                    && Math.abs(get("spH") - get("h")) <= get("s7");
                inc(near ? "soakClock" : "paused", 1);
                if (get("soakClock") == segment[3]) {
                    complete();
                } else if (get("paused") > get("s11")) {
                    entry(5, get("segment"));
                    put("phase", 4);
                }
            }
            // 8
            inc("time", 1);
        }
    }

    private World w = new World();
    private final List<World> saved = new ArrayList<>();
    private String buffer = "";

    Model() {
        for (int i = 0; i < FIRST.length; i++) {
            w.put("s" + i, FIRST[i]);
        }
        for (String name : VALUES) {
            w.put(name, 0);
        }
        for (String name : new String[] {"before", "startT", "startH", "begun", "modeT", "modeH"}) {
            w.put(name, 0);
        }
        for (String channel : new String[] {"T", "H"}) {
            w.put("gain" + channel, 50);
            w.put("band" + channel, 2);
        }
        w.put("t", 200);
        w.put("spT", 200);
        w.put("h", 400);
        w.put("spH", 400);
        w.put("heaterRest", 1000);
        w.put("coolerRest", 1000);
        w.put("cycles", 1);
    }

    Model copy() {
        Model other = new Model();
        other.w = w.copy();
        for (World one : saved) {
            other.saved.add(one.copy());
        }
        other.buffer = buffer;
        return other;
    }

    private static void index(boolean good) {
        if (!good) {
            throw new IndexOutOfBoundsException();
        }
    }

    private static void argument(boolean good) {
        if (!good) {
            throw new IllegalArgumentException();
        }
    }

    private static void state(boolean good) {
        if (!good) {
            throw new IllegalStateException();
        }
    }

    private void save() {
        saved.add(w.copy());
        if (saved.size() > 6) {
            saved.remove(0);
        }
    }

    private static boolean segmentOk(int t, int h, int r, int s) {
        return t >= -400 && t <= 1800 && h >= 0 && h <= 1000 && r >= 0 && r <= 500 && s >= 0
            && s <= 500 && (r != 0 || s != 0);
    }

    private int replace(String name, int value) {
        save();
        int old = w.get(name);
        w.put(name, value);
        return old;
    }

    int set(int i, int value) {
        index(i >= 0 && i < 12);
        argument(value >= LOW[i] && value <= HIGH[i]);
        return replace("s" + i, value);
    }

    int setMode(int channel, int mode, int gain, int band) {
        index(channel == 0 || channel == 1);
        argument(mode >= 0 && mode <= 2 && gain >= 1 && gain <= 100 && band >= 0 && band <= 50);
        String c = channel == 0 ? "T" : "H";
        int old = replace("mode" + c, mode);
        w.put("gain" + c, gain);
        w.put("band" + c, band);
        return old;
    }

    int setPoints(int t, int h) {
        argument(t >= -400 && t <= 1800 && h >= 0 && h <= 1000);
        state(!w.runs());
        int old = replace("spT", t);
        w.put("spH", h);
        return old;
    }

    int door(boolean open) {
        state(w.get("open") != (open ? 1 : 0));
        replace("open", open ? 1 : 0);
        w.entry(open ? 7 : 8, 0);
        return w.get("time");
    }

    int pass(int minutes) {
        argument(minutes >= 1 && minutes <= 500);
        state(w.get("time") + minutes <= 20000);
        save();
        for (int i = 0; i < minutes; i++) {
            w.minute();
        }
        return w.get("t");
    }

    int addSegment(int t, int h, int r, int s) {
        argument(segmentOk(t, h, r, s));
        state(!w.runs() && w.segments.size() < 12);
        save();
        w.segments.add(new int[] {t, h, r, s});
        return w.segments.size() - 1;
    }

    int removeSegment(int segment) {
        index(segment >= 0 && segment < w.segments.size());
        state(!w.runs());
        save();
        w.segments.remove(segment);
        return w.segments.size();
    }

    int setCycles(int cycles) {
        argument(cycles >= 1 && cycles <= 20);
        state(!w.runs());
        return replace("cycles", cycles);
    }

    int start() {
        state(!w.runs() && !w.segments.isEmpty());
        save();
        w.put("held", 0);
        w.entry(1, w.segments.size());
        w.begin(0, 1, w.get("time"));
        return w.segments.size();
    }

    int stop() {
        state(w.runs());
        save();
        w.entry(6, w.get("segment"));
        w.put("phase", 0);
        w.put("held", 0);
        return w.get("segment");
    }

    int hold(boolean held) {
        state(w.runs() && w.get("held") != (held ? 1 : 0));
        replace("held", held ? 1 : 0);
        return w.get("phase");
    }

    int undo() {
        state(!saved.isEmpty());
        w = saved.remove(saved.size() - 1);
        return saved.size();
    }

    int value(int what) {
        argument(what >= 0 && what <= 24);
        if (what == 21) {
            return w.segments.size();
        }
        if (what == 22) {
            return w.get("cycles");
        }
        if (what == 23) {
            return saved.size();
        }
        if (what == 24) {
            return buffer.length();
        }
        if ((what == 8 || what == 9) && !w.runs()) {
            return NONE;
        }
        return w.get(VALUES[what]);
    }

    int setting(int i) {
        index(i >= 0 && i < 12);
        return w.get("s" + i);
    }

    int segment(int segment, int property) {
        index(segment >= 0 && segment < w.segments.size());
        argument(property >= 0 && property <= 3);
        return w.segments.get(segment)[property];
    }

    private static int latest(List<int[]> rows, int most, int index, int property) {
        return index >= most || index >= rows.size()
            ? NONE : rows.get(rows.size() - 1 - index)[property];
    }

    int result(int i, int property) {
        argument(i >= 0 && property >= 0 && property <= 3);
        return latest(w.results, 16, i, property);
    }

    int audit(int i, int property) {
        argument(i >= 0 && property >= 0 && property <= 2);
        return latest(w.entries, 24, i, property);
    }

    long auditCode() {
        return w.code;
    }

    int history(int back) {
        argument(back >= 0);
        return back >= 60 || back >= w.history.size()
            ? NONE : w.history.get(w.history.size() - 1 - back);
    }

    private int[] lastTemperatures(int minutes) {
        argument(minutes >= 1 && minutes <= 60);
        int size = w.history.size();
        return w.history.subList(Math.max(0, size - minutes), size).stream()
            .mapToInt(Integer::intValue).toArray();
    }

    int spread(int minutes) {
        int[] row = lastTemperatures(minutes);
        Arrays.sort(row);
        return row.length == 0 ? 0 : row[row.length - 1] - row[0];
    }

    double mean(int minutes) {
        int[] row = lastTemperatures(minutes);
        return row.length == 0 ? 0.0 : (double) Arrays.stream(row).sum() / (double) row.length;
    }

    int valueIn(int channel, int minutes) {
        index(channel == 0 || channel == 1);
        argument(minutes >= 0 && minutes <= 300);
        World x = w.copy();
        for (int i = 0; i < minutes; i++) {
            x.minute();
        }
        return x.get(channel == 0 ? "t" : "h");
    }

    int doneIn() {
        state(w.runs());
        World x = w.copy();
        for (int i = 1; i <= 1000; i++) {
            x.minute();
            if (x.get("phase") == 3) {
                return i;
            }
        }
        return NONE;
    }

    int reachIn(int temperature) {
        argument(temperature >= -400 && temperature <= 1800);
        World x = w.copy();
        x.put("phase", 0);
        x.put("open", 0);
        x.put("spT", temperature);
        for (int i = 0; i <= 500; i++) {
            if (Math.abs(temperature - x.get("t")) <= x.get("s6")) {
                return i;
            }
            x.minute();
        }
        return NONE;
    }

    int bestMode(int minutes) {
        argument(minutes >= 1 && minutes <= 200);
        long[] sums = new long[3];
        int best = 0;
        for (int mode = 0; mode < 3; mode++) {
            World x = w.copy();
            x.put("modeT", mode);
            for (int i = 0; i < minutes; i++) {
                x.minute();
                sums[mode] += Math.abs(x.get("spT") - x.get("t"));
            }
            best = sums[mode] < sums[best] ? mode : best;
        }
        return best;
    }

    int append(int code) {
        argument(code >= 32 && code <= 126);
        state(buffer.length() < 90);
        buffer += (char) code;
        return buffer.length();
    }

    int clear() {
        int length = buffer.length();
        buffer = "";
        return length;
    }

    private static final String ONE = "t(-?[0-9]{1,4})h([0-9]{1,4})r([0-9]{1,4})s([0-9]{1,4});";
    private static final Pattern SEGMENT = Pattern.compile(ONE);
    private static final Pattern TEXT = Pattern.compile("(?:" + ONE + "){1,12}");

    int errorPosition() {
        for (int end = 1; end <= buffer.length(); end++) {
            Matcher matcher = TEXT.matcher(buffer.substring(0, end));
            if (!matcher.matches() && !matcher.hitEnd()) {
                return end - 1;
            }
        }
        if (!TEXT.matcher(buffer).matches()) {
            return buffer.length();
        }
        Matcher matcher = SEGMENT.matcher(buffer);
        while (matcher.find()) {
            int[] s = numbers(matcher);
            if (!segmentOk(s[0], s[1], s[2], s[3])) {
                return matcher.start();
            }
        }
        return NONE;
    }

    private static int[] numbers(Matcher matcher) {
        int[] numbers = new int[4];
        for (int i = 0; i < 4; i++) {
            numbers[i] = Integer.parseInt(matcher.group(i + 1));
        }
        return numbers;
    }

    int load() {
        argument(errorPosition() == NONE);
        state(!w.runs());
        save();
        w.segments.clear();
        Matcher matcher = SEGMENT.matcher(buffer);
        while (matcher.find()) {
            w.segments.add(numbers(matcher));
        }
        buffer = "";
        return w.segments.size();
    }
}
