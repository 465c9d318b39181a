import java.io.IOException;
import java.io.UncheckedIOException;
import java.nio.file.Files;
import java.nio.file.Path;
import java.util.ArrayList;
import java.util.List;

/**
 * What the tests have in common of which each stands for one sentence of the document: a new chamber
 * for each of them, twins to see that a call has changed nothing, and a look at the document itself,
 * so that no sentence is left without its test. No chamber is called more than 512 times.
 */
abstract class Sentences {

    /** Some calls of one chamber. */
    interface Use {
        void of(ClimateChamber x);
    }

    /** What can be seen of a chamber, as a text. */
    private interface Look {
        String at(ClimateChamber x);
    }

    static final Class<?> OUT = IndexOutOfBoundsException.class;
    static final Class<?> ARGUMENT = IllegalArgumentException.class;
    static final Class<?> STATE = IllegalStateException.class;

    static final int NONE = ClimateChamber.NONE;
    static final int MIN = Integer.MIN_VALUE;
    static final int MAX = Integer.MAX_VALUE;

    static final int TIME = 0;
    static final int TEMPERATURE = 1;
    static final int HUMIDITY = 2;
    static final int TEMPERATURE_POINT = 3;
    static final int HUMIDITY_POINT = 4;
    static final int PHASE = 5;
    static final int HELD = 6;
    static final int DOOR = 7;
    static final int SEGMENT = 8;
    static final int CYCLE = 9;
    static final int RAMP_CLOCK = 10;
    static final int SOAK_CLOCK = 11;
    static final int PAUSED = 12;
    static final int HEATER = 13;
    static final int COOLER = 14;
    static final int HUMIDIFIER = 15;
    static final int DRYER = 16;
    static final int BLOCKED = 17;
    static final int HEATER_REST = 18;
    static final int COOLER_REST = 19;
    static final int ENERGY = 20;
    static final int SEGMENTS = 21;
    static final int CYCLES = 22;
    static final int SAVED = 23;
    static final int LENGTH = 24;

    static final int IDLE = 0;
    static final int RAMP = 1;
    static final int SOAK = 2;
    static final int DONE = 3;
    static final int FAILED = 4;

    /** Chambers in which nearly all that can differ from a new one does. */
    static final Use SOAKING = x -> {
        useLong(x);
        type(x, "t1h2");
    };
    static final Use RAMPING = x -> {
        useLong(x);
        x.pass(3);
        type(x, "t1h2");
    };
    static final Use HELD_ONE = x -> {
        RAMPING.of(x);
        x.hold(true);
    };
    static final Use BLOCKED_ONE = x -> {
        useLong(x);
        x.pass(9);
    };
    static final Use OPEN_ONE = x -> {
        RAMPING.of(x);
        x.door(true);
        x.pass(1);
    };
    static final Use IDLE_ONE = x -> {
        SOAKING.of(x);
        x.stop();
        x.setPoints(231, 433);
        x.pass(2);
    };
    static final Use DONE_ONE = x -> {
        x.addSegment(200, 400, 0, 1);
        x.start();
        x.pass(1);
        type(x, "t1");
    };
    static final Use FAILED_ONE = x -> {
        x.set(11, 0);
        x.addSegment(1000, 400, 0, 1);
        x.start();
        x.pass(1);
        type(x, "t1");
    };
    static final Use FULL = x -> {
        for (int i = 0; i < 12; i++) {
            x.addSegment(200 + i, 400, 0, 1);
        }
    };
    static final Use AT_LATEST_TIME = x -> {
        for (int i = 0; i < 40; i++) {
            x.pass(500);
        }
    };

    private final Checks checks;
    private final List<String> quoted = new ArrayList<>();
    private String section = "";
    private String sentence = "";

    Sentences(String suite) {
        checks = new Checks(suite);
    }

    /** Ends in the soak of segment 1 in cycle 2, which has paused for 7 minutes, at the time 27. */
    private static void useLong(ClimateChamber x) {
        x.set(0, 30);
        x.set(9, 350);
        x.setMode(0, 1, 70, 3);
        x.setMode(1, 2, 80, 4);
        x.addSegment(215, 425, 2, 2);
        x.addSegment(270, 380, 0, 2);
        x.setCycles(4);
        x.pass(2);
        x.start();
        x.pass(22);
        x.door(true);
        x.pass(1);
        x.door(false);
        x.pass(2);
    }

    // ---- one test

    final void section(String name) {
        section = name;
    }

    /** Runs the test of a sentence, of which the words are enough that tell it from the others. */
    final void test(String words, Use body) {
        quoted.add(plain(words));
        sentence = words;
        try {
            body.of(new ClimateChamber());
        } catch (RuntimeException e) {
            checks.dueText(label(), "no exception", String.valueOf(e));
        }
    }

    private String label() {
        String place = StackWalker.getInstance().walk(frames -> frames
            .filter(frame -> !frame.getClassName().startsWith("Sentences")).findFirst()
            .map(frame -> "line " + frame.getLineNumber()).orElse("?"));
        return section + ", \"" + sentence + "\", " + place;
    }

    final void finish() {
        checks.finish();
    }

    // ---- what is due

    final void due(long want, long got) {
        checks.due(label(), want, got);
    }

    final void dueDouble(double want, double got) {
        checks.dueDouble(label(), want, got);
    }

    final void dueValues(ClimateChamber x, int... pairs) {
        for (int i = 0; i + 1 < pairs.length; i += 2) {
            checks.due(label() + ", value(" + pairs[i] + ")", pairs[i + 1], x.value(pairs[i]));
        }
    }

    /** An entry of the audit trail: its kind, number and time. */
    final void dueEntry(ClimateChamber x, int index, int... entry) {
        for (int i = 0; i < entry.length; i++) {
            checks.due(label() + ", entry " + index + ", " + i, entry[i], x.audit(index, i));
        }
    }

    /** A result: its segment, cycle, minutes and paused minutes. */
    final void dueResult(ClimateChamber x, int index, int... result) {
        for (int i = 0; i < result.length; i++) {
            checks.due(label() + ", result " + index + ", " + i, result[i], x.result(index, i));
        }
    }

    final void dueThrow(Class<?> want, ClimateChamber x, Use call) {
        checks.dueText(label(), want.getName(), thrown(x, call));
    }

    /** Each call throws the exception in a chamber so made, and changes nothing there. */
    final void refuse(Class<?> want, Use made, Use... calls) {
        for (int i = 0; i < calls.length; i++) {
            Use call = calls[i];
            String what = label() + ", refused call " + i;
            checks.dueText(what, want.getName(), thrown(make(made), call));
            same(what, made, both(made, x -> thrown(x, call)));
        }
    }

    /** The call saves the state from before, and undo brings all of it back. */
    final void undoable(Use made, Use call) {
        undoable(made, call, x -> { });
    }

    /** The same for a call that changes the buffer too, which undo does not bring back. */
    final void undoable(Use made, Use call, Use makeBuffer) {
        ClimateChamber x = make(made);
        int before = x.value(SAVED);
        call.of(x);
        checks.due(label() + ", saved states", Math.min(before + 1, 6), x.value(SAVED));
        checks.due(label() + ", undo", Math.min(before, 5), x.undo());
        Use undone = y -> {
            call.of(y);
            y.undo();
            makeBuffer.of(y);
        };
        same(label() + ", undone", both(made, Sentences::dropSaved),
            both(both(made, undone), Sentences::dropSaved));
        // Six saved states have become five: the oldest was dropped before undo.
        same(label() + ", saved states undone", both(made, y -> {
            y.set(0, y.setting(0));
            y.undo();
        }), both(made, undone));
    }

    private static Use both(Use one, Use other) {
        return x -> {
            one.of(x);
            other.of(x);
        };
    }

    /** Takes the saved states' place, so that they no longer differ, and changes nothing else. */
    private static void dropSaved(ClimateChamber x) {
        for (int i = 0; i < 6; i++) {
            x.set(0, x.setting(0));
        }
    }

    /** The call answers, changes nothing and saves no state. */
    final void changesNothing(Use made, Use call) {
        same(label(), made, both(made, call));
    }

    static void type(ClimateChamber x, String text) {
        for (int i = 0; i < text.length(); i++) {
            x.append(text.charAt(i));
        }
    }

    static ClimateChamber make(Use made) {
        ClimateChamber x = new ClimateChamber();
        made.of(x);
        return x;
    }

    static String thrown(ClimateChamber x, Use call) {
        try {
            call.of(x);
            return "no exception";
        } catch (RuntimeException e) {
            return e.getClass().getName();
        }
    }

    // ---- chambers

    /** Without loss, coupling and rest, so that a demand is all that changes a value. */
    static void calm(ClimateChamber x) {
        x.set(4, 0);
        x.set(5, 0);
        x.set(8, 0);
    }

    static void points(ClimateChamber x, int temperature, int humidity) {
        x.setPoints(temperature, humidity);
        x.pass(1);
    }

    static void program(ClimateChamber x, int... segments) {
        for (int i = 0; i + 3 < segments.length; i += 4) {
            x.addSegment(segments[i], segments[i + 1], segments[i + 2], segments[i + 3]);
        }
        x.start();
    }

    static ClimateChamber withSetting(int index, int value) {
        ClimateChamber x = new ClimateChamber();
        x.set(index, value);
        return x;
    }

    /** The values behind one minute of a new chamber with a changed setting. */
    final void dueWith(int index, int value, int temperaturePoint, int humidityPoint,
            int temperature, int humidity) {
        ClimateChamber x = withSetting(index, value);
        points(x, temperaturePoint, humidityPoint);
        dueValues(x, TEMPERATURE, temperature, HUMIDITY, humidity);
    }

    /** What one minute changes in a new chamber whose channel is so far from its set point. */
    static int change(int channel, int mode, int gain, int band, int error) {
        ClimateChamber x = new ClimateChamber();
        x.set(5, 0);
        x.setMode(channel, mode, gain, band);
        points(x, channel == 0 ? 200 + error : 200, channel == 0 ? 400 : 400 + error);
        return channel == 0 ? x.value(TEMPERATURE) - 200 : x.value(HUMIDITY) - 400;
    }

    final void dueError(int want, String text) {
        ClimateChamber x = new ClimateChamber();
        type(x, text);
        due(want, x.errorPosition());
    }

    // ---- twins

    /** Three looks, each at new twins, since a chamber is used for 512 calls alone. */
    private void same(String what, Use one, Use other) {
        Look[] looks = {Sentences::surface, Sentences::controls, Sentences::later};
        for (Look look : looks) {
            String want = look.at(make(one));
            String got = look.at(make(other));
            int place = firstDifference(want, got);
            checks.dueText(what + ", state behind it", excerpt(want, place), excerpt(got, place));
        }
    }

    private static int firstDifference(String one, String other) {
        int place = 0;
        while (place < one.length() && place < other.length()
                && one.charAt(place) == other.charAt(place)) {
            place++;
        }
        return place;
    }

    private static String excerpt(String text, int place) {
        return ".." + text.substring(Math.max(0, place - 40), Math.min(text.length(), place + 20));
    }

    private static void add(StringBuilder text, long number) {
        text.append(number).append(' ');
    }

    private static String surface(ClimateChamber x) {
        StringBuilder all = new StringBuilder("values ");
        for (int what = TIME; what <= LENGTH; what++) {
            add(all, x.value(what));
        }
        all.append("settings ");
        for (int i = 0; i < 12; i++) {
            add(all, x.setting(i));
        }
        all.append("segments ");
        int segments = x.value(SEGMENTS);
        for (int i = 0; i < 4 * segments; i++) {
            add(all, x.segment(i / 4, i % 4));
        }
        all.append("history ");
        for (int back = 0; back <= 60; back++) {
            add(all, x.history(back));
        }
        addRows(all, x);
        add(all, x.errorPosition());
        return all.toString();
    }

    private static void addRows(StringBuilder all, ClimateChamber x) {
        all.append("results ");
        for (int i = 0; i < 17 && x.result(i, 0) != NONE; i++) {
            for (int property = 0; property < 4; property++) {
                add(all, x.result(i, property));
            }
        }
        all.append("entries ");
        for (int i = 0; i < 25 && x.audit(i, 0) != NONE; i++) {
            for (int property = 0; property < 3; property++) {
                add(all, x.audit(i, property));
            }
        }
        add(all, x.auditCode());
    }

    /** The modes, gains and bands, and the saved states one behind the other. */
    private static String controls(ClimateChamber x) {
        StringBuilder all = new StringBuilder("controls ");
        for (int saved = 0; saved <= 6; saved++) {
            for (int what : new int[] {TIME, TEMPERATURE_POINT, PHASE, HELD, DOOR, SEGMENTS, SAVED}) {
                add(all, x.value(what));
            }
            for (int minutes : new int[] {1, 2, 20, 300}) {
                add(all, x.valueIn(0, minutes));
                add(all, x.valueIn(1, minutes));
            }
            for (int setPoint : new int[] {x.value(TEMPERATURE) + 3, -40, 260}) {
                add(all, x.reachIn(setPoint));
            }
            add(all, x.bestMode(1));
            add(all, x.bestMode(30));
            if (x.value(PHASE) == RAMP || x.value(PHASE) == SOAK) {
                add(all, x.doneIn());
            }
            all.append("undo ").append(thrown(x, y -> y.undo())).append(' ');
        }
        return all.toString();
    }

    /** What the state leads to. */
    private static String later(ClimateChamber x) {
        StringBuilder all = new StringBuilder("later ");
        for (int i = 0; i < 12; i++) {
            all.append(thrown(x, y -> y.pass(1))).append(' ');
            add(all, x.value(TEMPERATURE));
            add(all, x.value(HUMIDITY));
            add(all, x.value(PHASE));
            add(all, x.auditCode());
        }
        all.append(thrown(x, y -> y.pass(200))).append(' ');
        addRows(all, x);
        for (int distance : new int[] {1, 2, 3, 4, 5, 8, 20, 49, 51, 90}) {
            if (thrown(x, y -> y.setPoints(y.value(TEMPERATURE) + distance,
                    y.value(HUMIDITY) - distance)).equals("no exception")) {
                add(all, x.valueIn(0, 1));
                add(all, x.valueIn(1, 1));
            }
        }
        return all.toString();
    }

    // ---- the document

    /**
     * Looks whether each sentence of the section is quoted by a test, or is one of those that name no
     * boundary case, and whether the words that are quoted stand there.
     */
    final void endOfSection(String... others) {
        String text = sectionOf(section);
        for (String other : others) {
            quoted.add(plain(other));
        }
        for (String one : sentencesOf(text)) {
            checks.isTrue(section + " has a test of: " + one,
                quoted.stream().anyMatch(words -> one.contains(words)));
        }
        for (String words : quoted) {
            checks.isTrue(section + " says: " + words, plain(text).contains(words));
        }
        quoted.clear();
    }

    private static String plain(String text) {
        return text.replaceAll("\\s+", " ").trim();
    }

    /** A section by its heading, or a part of it: "Terms: TEXT" begins below the line TEXT. */
    private static String sectionOf(String name) {
        boolean part = name.startsWith("Terms: ");
        String text = between(document(), "\n## " + (part ? "Terms" : name) + "\n", "\n## ");
        return part ? between(text, "\n" + name.substring("Terms: ".length()) + "\n",
            "\n[A-Z][A-Z ]+\n") : text;
    }

    private static String document() {
        try {
            return Files.readString(Path.of("../shared/DOC.md"));
        } catch (IOException e) {
            throw new UncheckedIOException(e);
        }
    }

    private static String between(String text, String heading, String nextHeading) {
        int start = text.indexOf(heading);
        return start < 0 ? "" : text.substring(start + heading.length()).split(nextHeading)[0];
    }

    private static List<String> sentencesOf(String text) {
        List<String> sentences = new ArrayList<>();
        for (String paragraph : text.split("\n\\s*\n|\n(?=- )")) {
            for (String one : plain(paragraph).split("(?<=[.]) (?=[A-Z])")) {
                // A signature needs no test of its own, nor does the heading of a step.
                if (!one.matches("`.*|\\d[.]|[A-Z]\\w+( and \\w+| points)?[.]") || one.equals("Undoable.")) {
                    sentences.add(one);
                }
            }
        }
        return sentences;
    }
}
