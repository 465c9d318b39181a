/**
 * For each promise of the document: ordinary calls, some of the edges that it names, and wrong
 * arguments, in longer runs than the tests of single sentences have. What is due was reckoned by hand
 * from the document; the reckoning stands beside it where it is not plain.
 */
public final class PromiseTests {

    private static final int NONE = ClimateChamber.NONE;
    private static final Checks CHECKS = new Checks("promises");

    private static final int TIME = 0;
    private static final int TEMPERATURE = 1;
    private static final int HUMIDITY = 2;
    private static final int TEMPERATURE_POINT = 3;
    private static final int HUMIDITY_POINT = 4;
    private static final int PHASE = 5;
    private static final int HELD = 6;
    private static final int DOOR = 7;
    private static final int SEGMENT = 8;
    private static final int CYCLE = 9;
    private static final int RAMP_CLOCK = 10;
    private static final int SOAK_CLOCK = 11;
    private static final int PAUSED = 12;
    private static final int HEATER = 13;
    private static final int COOLER = 14;
    private static final int HUMIDIFIER = 15;
    private static final int DRYER = 16;
    private static final int BLOCKED = 17;
    private static final int HEATER_REST = 18;
    private static final int COOLER_REST = 19;
    private static final int ENERGY = 20;
    private static final int SEGMENTS = 21;
    private static final int CYCLES = 22;
    private static final int SAVED = 23;
    private static final int LENGTH = 24;

    private ClimateChamber x;

    private PromiseTests() {
        x = new ClimateChamber();
    }

    public static void main(String[] args) {
        new PromiseTests().newObject();
        new PromiseTests().set();
        new PromiseTests().setEffects();
        new PromiseTests().setMode();
        new PromiseTests().demands();
        new PromiseTests().smallOutputs();
        new PromiseTests().setPoints();
        new PromiseTests().door();
        new PromiseTests().pass();
        new PromiseTests().minuteLimits();
        new PromiseTests().blocking();
        new PromiseTests().addSegment();
        new PromiseTests().removeSegment();
        new PromiseTests().setCycles();
        new PromiseTests().start();
        new PromiseTests().ramp();
        new PromiseTests().rampWithoutSoak();
        new PromiseTests().soak();
        new PromiseTests().patience();
        new PromiseTests().cyclesOfAProgram();
        new PromiseTests().stop();
        new PromiseTests().hold();
        new PromiseTests().undo();
        new PromiseTests().undoOfHiddenState();
        new PromiseTests().value();
        new PromiseTests().setting();
        new PromiseTests().segment();
        new PromiseTests().result();
        new PromiseTests().audit();
        new PromiseTests().auditCode();
        new PromiseTests().history();
        new PromiseTests().spread();
        new PromiseTests().mean();
        new PromiseTests().valueIn();
        new PromiseTests().beyondTheLimitOfTime();
        new PromiseTests().doneIn();
        new PromiseTests().reachIn();
        new PromiseTests().bestMode();
        new PromiseTests().append();
        new PromiseTests().clear();
        new PromiseTests().errorPosition();
        new PromiseTests().load();
        CHECKS.finish();
    }

    private void fresh() {
        x = new ClimateChamber();
    }

    private void due(String what, long want, long got) {
        CHECKS.due(what, want, got);
    }

    private void dueValues(String when, int... pairs) {
        for (int i = 0; i + 1 < pairs.length; i += 2) {
            due(when + ": value(" + pairs[i] + ")", pairs[i + 1], x.value(pairs[i]));
        }
    }

    /** An entry of the trail: its kind, number and time. */
    private void dueEntry(int index, int kind, int number, int time) {
        due("kind of entry " + index, kind, x.audit(index, 0));
        due("number of entry " + index, number, x.audit(index, 1));
        due("time of entry " + index, time, x.audit(index, 2));
    }

    private void dueResult(int index, int segment, int cycle, int minutes, int paused) {
        due("segment of result " + index, segment, x.result(index, 0));
        due("cycle of result " + index, cycle, x.result(index, 1));
        due("minutes of result " + index, minutes, x.result(index, 2));
        due("paused minutes of result " + index, paused, x.result(index, 3));
    }

    private void type(String text) {
        for (int i = 0; i < text.length(); i++) {
            x.append(text.charAt(i));
        }
    }

    private void dueError(String text, int want) {
        fresh();
        type(text);
        due("errorPosition of " + text, want, x.errorPosition());
    }

    // ---- promise 1

    private void newObject() {
        int[] first = {0, 200, 400, 200, 400, 0, 0, 0, NONE, NONE, 0, 0, 0, 0, 0, 0, 0, 0, 1000, 1000,
            0, 0, 1, 0, 0};
        for (int what = 0; what < first.length; what++) {
            due("value(" + what + ") of a new object", first[what], x.value(what));
        }
        due("auditCode of a new object", 17, x.auditCode());
        due("audit of a new object", NONE, x.audit(0, 0));
        due("result of a new object", NONE, x.result(0, 0));
        due("history of a new object", NONE, x.history(0));
        due("errorPosition of a new object", 0, x.errorPosition());
        due("NONE", -10000, ClimateChamber.NONE);
        due("first mode of the temperature", 0, x.setMode(0, 1, 1, 0));
        due("first mode of the humidity", 0, x.setMode(1, 1, 1, 0));
    }

    // ---- promise 2

    private static final int[] FIRST = {20, 15, 10, 10, 2, 3, 5, 20, 3, 200, 400, 60};
    private static final int[] LEAST = {1, 1, 1, 1, 0, 0, 0, 0, 0, -200, 0, 0};
    private static final int[] GREATEST = {50, 50, 50, 50, 20, 20, 100, 200, 30, 500, 1000, 1000};

    private void set() {
        for (int i = 0; i < 12; i++) {
            int index = i;
            due("set to the least of " + i, FIRST[i], x.set(i, LEAST[i]));
            CHECKS.badArgument("set below " + i, () -> x.set(index, LEAST[index] - 1));
            due("set to the greatest of " + i, LEAST[i], x.set(i, GREATEST[i]));
            CHECKS.badArgument("set above " + i, () -> x.set(index, GREATEST[index] + 1));
            due("setting after set " + i, GREATEST[i], x.setting(i));
        }
        CHECKS.outOfBounds("set(-1, 1)", () -> x.set(-1, 1));
        CHECKS.outOfBounds("set(12, 1)", () -> x.set(12, 1));
        CHECKS.outOfBounds("set(12, -9999)", () -> x.set(12, -9999));
        CHECKS.outOfBounds("set(MIN, MAX)",
            () -> x.set(Integer.MIN_VALUE, Integer.MAX_VALUE));
        CHECKS.badArgument("set(0, MAX)", () -> x.set(0, Integer.MAX_VALUE));
        CHECKS.badArgument("set(0, MIN)", () -> x.set(0, Integer.MIN_VALUE));
    }

    private void setAndPass(int index, int value, int temperature, int humidity) {
        fresh();
        x.set(index, value);
        x.setPoints(temperature, humidity);
        x.pass(1);
    }

    private void setEffects() {
        setAndPass(0, 50, 300, 400);
        dueValues("heater power", TEMPERATURE, 250);
        setAndPass(1, 30, 100, 400);
        dueValues("cooler power", TEMPERATURE, 170);
        setAndPass(2, 25, 200, 600);
        dueValues("humidifier power", HUMIDITY, 425);
        setAndPass(3, 25, 200, 200);
        dueValues("dryer power", HUMIDITY, 375);
        setAndPass(4, 0, 200, 400);
        x.set(9, 500);
        due("no loss", 200, x.pass(1));
        x.set(4, 20);
        // error 0, lost temperature (500 - 200) * 20 / 100
        due("loss", 260, x.pass(1));
        // coupled change -20 * 20 / 10 = -40, error 400 - 400 + 40, limited to 10
        setAndPass(5, 20, 300, 400);
        dueValues("coupling", HUMIDITY, 370, HUMIDIFIER, 1, ENERGY, 30);
        // coupled change 15 * 20 / 10 = 30, error -30, limited to -10
        setAndPass(5, 20, 100, 400);
        dueValues("coupling when cooling", HUMIDITY, 420, DRYER, 1, ENERGY, 25);
        setAndPass(9, -200, 200, 400);
        dueValues("ambient temperature", TEMPERATURE, 192);
        setAndPass(10, 1000, 200, 400);
        dueValues("ambient humidity", HUMIDITY, 412);
        setAndPass(8, 0, 220, 400);
        x.setPoints(200, 400);
        // without a rest the cooler follows at once: -15 + (200 - 220) * 2 / 100
        due("no rest", 205, x.pass(1));
        fresh();
        x.set(6, 100);
        due("temperature tolerance", 0, x.reachIn(300));
        due("beyond the temperature tolerance", 1, x.reachIn(301));
    }

    // ---- promise 3

    private void setMode() {
        due("setMode of the temperature", 0, x.setMode(0, 2, 100, 50));
        due("setMode gives the previous mode", 2, x.setMode(0, 1, 1, 0));
        due("setMode of the humidity", 0, x.setMode(1, 1, 1, 0));
        due("setMode of the temperature again", 1, x.setMode(0, 0, 50, 2));
        CHECKS.outOfBounds("channel -1", () -> x.setMode(-1, 0, 50, 2));
        CHECKS.outOfBounds("channel 2", () -> x.setMode(2, 0, 50, 2));
        CHECKS.outOfBounds("channel 2 and a wrong mode", () -> x.setMode(2, 3, 0, 51));
        CHECKS.badArgument("mode -1", () -> x.setMode(0, -1, 50, 2));
        CHECKS.badArgument("mode 3", () -> x.setMode(1, 3, 50, 2));
        CHECKS.badArgument("gain 0", () -> x.setMode(0, 0, 0, 2));
        CHECKS.badArgument("gain 101", () -> x.setMode(1, 0, 101, 2));
        CHECKS.badArgument("band -1", () -> x.setMode(0, 0, 50, -1));
        CHECKS.badArgument("band 51", () -> x.setMode(1, 0, 50, 51));
        dueValues("after wrong calls", SAVED, 4);
    }

    private void dueTemperature(int mode, int gain, int band, int point, int want) {
        fresh();
        x.setMode(0, mode, gain, band);
        x.setPoints(point, 400);
        due("temperature with mode " + mode + " for " + point, want, x.pass(1));
    }

    private void dueHumidity(int mode, int gain, int band, int point, int want) {
        fresh();
        x.setMode(1, mode, gain, band);
        x.setPoints(200, point);
        x.pass(1);
        dueValues("humidity with mode " + mode + " for " + point, HUMIDITY, want, TEMPERATURE, 200);
    }

    private void demands() {
        dueTemperature(0, 50, 2, 202, 200);
        dueTemperature(0, 50, 2, 203, 203);
        dueTemperature(0, 50, 2, 198, 200);
        dueTemperature(0, 50, 2, 197, 197);
        dueTemperature(0, 50, 0, 201, 201);
        dueTemperature(0, 50, 50, 250, 200);
        dueTemperature(0, 50, 50, 251, 220);
        dueTemperature(0, 50, 2, 220, 220);
        dueTemperature(0, 50, 2, 221, 220);
        dueTemperature(0, 50, 2, 185, 185);
        dueTemperature(0, 50, 2, 184, 185);
        dueTemperature(1, 50, 50, 210, 205);
        dueTemperature(1, 50, 50, 203, 201);
        dueTemperature(1, 50, 50, 197, 199);
        dueTemperature(1, 50, 50, 199, 200);
        dueTemperature(1, 100, 50, 207, 207);
        dueTemperature(1, 1, 50, 300, 201);
        dueTemperature(1, 100, 0, 1800, 220);
        dueTemperature(1, 100, 0, -400, 185);
        dueTemperature(2, 1, 2, 202, 200);
        dueTemperature(2, 1, 2, 203, 220);
        dueTemperature(2, 1, 2, 198, 200);
        dueTemperature(2, 1, 2, 197, 185);
        dueHumidity(0, 50, 2, 402, 400);
        dueHumidity(0, 50, 2, 403, 403);
        dueHumidity(0, 50, 2, 398, 400);
        dueHumidity(0, 50, 2, 397, 397);
        dueHumidity(1, 50, 50, 411, 405);
        dueHumidity(1, 50, 50, 389, 395);
        dueHumidity(2, 1, 4, 404, 400);
        dueHumidity(2, 1, 4, 405, 410);
        dueHumidity(2, 1, 4, 395, 390);
    }

    /** Outputs of 1 and of 0: whether a machine is on, and whether it is blocked. */
    private void smallOutputs() {
        x.setMode(0, 1, 1, 0);
        x.setMode(1, 1, 1, 0);
        x.setPoints(300, 500);
        x.pass(1);
        dueValues("up by 1", TEMPERATURE, 201, HUMIDITY, 401, HEATER, 1, HUMIDIFIER, 1, COOLER, 0,
            DRYER, 0, HEATER_REST, 0, COOLER_REST, 1000, ENERGY, 2);
        x.setPoints(201, 401);
        x.pass(1);
        dueValues("nothing", HEATER, 1, HUMIDIFIER, 1, COOLER, 0, DRYER, 0, HEATER_REST, 1,
            COOLER_REST, 1000, ENERGY, 2, BLOCKED, 0);
        x.setPoints(101, 301);
        x.pass(1);
        dueValues("cooling by 1 is blocked", TEMPERATURE, 201, HUMIDITY, 400, HEATER_REST, 2, DRYER,
            1, BLOCKED, 1, COOLER, 0, ENERGY, 3);
        x.pass(2);
        // the humidity's error is -99 then, of which a hundredth is nothing
        dueValues("down by 1", TEMPERATURE, 200, HUMIDITY, 400, COOLER, 1, DRYER, 1, BLOCKED, 2,
            COOLER_REST, 0, HEATER_REST, 4);
        x.setPoints(200, 400);
        x.pass(1);
        dueValues("nothing again", COOLER, 1, DRYER, 1, BLOCKED, 2, COOLER_REST, 1);
        x.setPoints(300, 400);
        x.pass(1);
        dueValues("heating by 1 is blocked", TEMPERATURE, 200, BLOCKED, 3, HEATER, 1);
    }

    // ---- promise 4

    private void setPoints() {
        due("setPoints", 200, x.setPoints(-400, 0));
        dueValues("least points", TEMPERATURE_POINT, -400, HUMIDITY_POINT, 0, TEMPERATURE, 200);
        due("setPoints again", -400, x.setPoints(1800, 1000));
        dueValues("greatest points", TEMPERATURE_POINT, 1800, HUMIDITY_POINT, 1000);
        CHECKS.badArgument("temperature -401", () -> x.setPoints(-401, 0));
        CHECKS.badArgument("temperature 1801", () -> x.setPoints(1801, 0));
        CHECKS.badArgument("humidity -1", () -> x.setPoints(0, -1));
        CHECKS.badArgument("humidity 1001", () -> x.setPoints(0, 1001));
        x.addSegment(200, 400, 1, 1);
        x.start();
        CHECKS.badState("setPoints in a ramp", () -> x.setPoints(0, 0));
        CHECKS.badArgument("wrong setPoints in a ramp", () -> x.setPoints(1801, 0));
        x.pass(1);
        CHECKS.badState("setPoints in a soak", () -> x.setPoints(0, 0));
        x.pass(1);
        dueValues("program done", PHASE, 3);
        due("setPoints behind a program", 200, x.setPoints(210, 410));
    }

    // ---- promise 5

    private void door() {
        CHECKS.badState("closing a closed door", () -> x.door(false));
        x.set(9, 500);
        x.set(10, 1000);
        x.setPoints(300, 300);
        x.pass(1);
        // 200 + 20 + 300 * 2 / 100; coupled -6, error -100 + 6, dryer 10, lost 600 * 2 / 100
        dueValues("door closed", TEMPERATURE, 226, HUMIDITY, 396, ENERGY, 30);
        due("opening", 1, x.door(true));
        dueEntry(0, 7, 0, 1);
        dueValues("door open", DOOR, 1);
        CHECKS.badState("opening an open door", () -> x.door(true));
        // leak 27: (500 - 226) * 27 / 100 = 73, (1000 - 396) * 27 / 100 = 163
        due("pass with an open door", 299, x.pass(1));
        dueValues("after an open minute", HUMIDITY, 559, ENERGY, 30, HEATER, 1, DRYER, 1,
            HEATER_REST, 1, COOLER_REST, 1000);
        due("closing", 2, x.door(false));
        dueEntry(0, 8, 0, 2);
        dueValues("door closed again", DOOR, 0);
        CHECKS.badState("closing it twice", () -> x.door(false));
    }

    // ---- promise 6

    private void pass() {
        CHECKS.badArgument("pass(0)", () -> x.pass(0));
        CHECKS.badArgument("pass(-1)", () -> x.pass(-1));
        CHECKS.badArgument("pass(501)", () -> x.pass(501));
        CHECKS.badArgument("pass(MAX)", () -> x.pass(Integer.MAX_VALUE));
        x.setPoints(260, 500);
        due("pass(1)", 220, x.pass(1));
        // coupled change -6, error 106, humidifier 10
        dueValues("one minute", TIME, 1, HUMIDITY, 404, HEATER, 1, HUMIDIFIER, 1, COOLER, 0, DRYER, 0,
            ENERGY, 30, HEATER_REST, 0, COOLER_REST, 1000);
        // at last 259, 258, 257 in turn: one is lost a minute, and the band holds an error of 2 back
        due("pass(500)", 257, x.pass(500));
        dueValues("501 minutes", TIME, 501);
        for (int i = 0; i < 38; i++) {
            x.pass(500);
        }
        x.pass(499);
        dueValues("the last time", TIME, 20000);
        CHECKS.badState("pass beyond the time", () -> x.pass(1));
        CHECKS.badArgument("wrong pass beyond the time", () -> x.pass(0));
        x.undo();
        dueValues("before the last minutes", TIME, 19501);
        CHECKS.badState("pass just beyond the time", () -> x.pass(500));
        due("pass just to the time", 258, x.pass(499));
    }

    private void minuteLimits() {
        x.set(0, 50);
        x.set(4, 0);
        x.set(5, 20);
        x.setPoints(1800, 0);
        x.pass(32);
        dueValues("dried out", TEMPERATURE, 1800, HUMIDITY, 0);
        fresh();
        x.set(1, 50);
        x.set(5, 20);
        x.setPoints(-400, 1000);
        x.pass(20);
        dueValues("moist", HUMIDITY, 1000);
    }

    /** Blocked minutes: the cooler waits for the heater's rest, and the other way round. */
    private void blocking() {
        x.set(4, 0);
        x.setPoints(220, 400);
        x.pass(1);
        x.setPoints(190, 400);
        due("first blocked minute", 220, x.pass(1));
        dueValues("first", BLOCKED, 1, COOLER, 0, HEATER_REST, 1);
        dueEntry(0, 9, 2, 1);
        due("second blocked minute", 220, x.pass(1));
        dueValues("second", BLOCKED, 2, HEATER_REST, 2);
        due("one entry", NONE, x.audit(1, 0));
        due("third blocked minute", 220, x.pass(1));
        dueValues("third", BLOCKED, 3, HEATER_REST, 3);
        due("cooling", 205, x.pass(1));
        // 20 + 6 when heating, 15 + 4 when cooling: the moisture makes the coupled change even
        dueValues("cooling", BLOCKED, 3, COOLER, 1, COOLER_REST, 0, HEATER_REST, 4, ENERGY, 45);
        x.setPoints(300, 400);
        due("heating blocked", 205, x.pass(1));
        dueEntry(0, 9, 1, 5);
        x.door(true);
        x.pass(1);
        dueValues("the open door blocks nothing", BLOCKED, 4);
        x.door(false);
        x.pass(1);
        dueEntry(0, 9, 1, 7);
        dueValues("blocked again behind the door", BLOCKED, 5);
        dueEntry(1, 8, 0, 7);
        dueEntry(2, 7, 0, 6);
        x.setMode(0, 0, 1, 50);
        x.setPoints(x.value(TEMPERATURE), 400);
        x.pass(500);
        x.pass(500);
        dueValues("long rests", HEATER_REST, 1000, COOLER_REST, 1000);
        x.pass(1);
        dueValues("longest rests", HEATER_REST, 1000, COOLER_REST, 1000);
    }

    // ---- promise 7

    private void addSegment() {
        due("first segment", 0, x.addSegment(-400, 0, 500, 0));
        due("second segment", 1, x.addSegment(1800, 1000, 0, 500));
        due("third segment", 2, x.addSegment(0, 0, 500, 500));
        CHECKS.badArgument("temperature -401", () -> x.addSegment(-401, 0, 1, 1));
        CHECKS.badArgument("temperature 1801", () -> x.addSegment(1801, 0, 1, 1));
        CHECKS.badArgument("humidity -1", () -> x.addSegment(0, -1, 1, 1));
        CHECKS.badArgument("humidity 1001", () -> x.addSegment(0, 1001, 1, 1));
        CHECKS.badArgument("ramp -1", () -> x.addSegment(0, 0, -1, 2));
        CHECKS.badArgument("ramp 501", () -> x.addSegment(0, 0, 501, 1));
        CHECKS.badArgument("soak -1", () -> x.addSegment(0, 0, 2, -1));
        CHECKS.badArgument("soak 501", () -> x.addSegment(0, 0, 1, 501));
        CHECKS.badArgument("ramp and soak 0", () -> x.addSegment(0, 0, 0, 0));
        CHECKS.badArgument("ramp MAX", () -> x.addSegment(0, 0, Integer.MAX_VALUE, 1));
        for (int i = 3; i < 12; i++) {
            due("segment " + i, i, x.addSegment(i, i, i, i));
        }
        CHECKS.badState("a thirteenth segment", () -> x.addSegment(0, 0, 1, 1));
        CHECKS.badArgument("a wrong thirteenth segment", () -> x.addSegment(0, 0, 0, 0));
        dueValues("full", SEGMENTS, 12);
        x.removeSegment(0);
        x.start();
        CHECKS.badState("addSegment while a program runs", () -> x.addSegment(0, 0, 1, 1));
        CHECKS.badArgument("wrong segment while it runs", () -> x.addSegment(0, 0, 0, 0));
        x.stop();
        due("addSegment behind a program", 11, x.addSegment(0, 0, 1, 1));
    }

    // ---- promise 8

    private void removeSegment() {
        CHECKS.outOfBounds("removeSegment of none", () -> x.removeSegment(0));
        for (int i = 0; i < 12; i++) {
            x.addSegment(i, 10 * i, i + 1, i + 2);
        }
        CHECKS.outOfBounds("removeSegment(-1)", () -> x.removeSegment(-1));
        CHECKS.outOfBounds("removeSegment(12)", () -> x.removeSegment(12));
        due("removeSegment(3)", 11, x.removeSegment(3));
        for (int i = 0; i < 11; i++) {
            int old = i < 3 ? i : i + 1;
            due("temperature of " + i, old, x.segment(i, 0));
            due("humidity of " + i, 10 * old, x.segment(i, 1));
            due("ramp of " + i, old + 1, x.segment(i, 2));
            due("soak of " + i, old + 2, x.segment(i, 3));
        }
        due("removeSegment of the last", 10, x.removeSegment(10));
        CHECKS.outOfBounds("the last is gone", () -> x.segment(10, 0));
        due("removeSegment of the first", 9, x.removeSegment(0));
        due("the first then", 1, x.segment(0, 0));
        x.start();
        CHECKS.badState("removeSegment while a program runs", () -> x.removeSegment(0));
        CHECKS.outOfBounds("removeSegment(9) while it runs", () -> x.removeSegment(9));
        CHECKS.outOfBounds("removeSegment(MIN)", () -> x.removeSegment(Integer.MIN_VALUE));
    }

    // ---- promise 9

    private void setCycles() {
        due("setCycles(20)", 1, x.setCycles(20));
        due("setCycles(1)", 20, x.setCycles(1));
        due("setCycles(7)", 1, x.setCycles(7));
        dueValues("cycles", CYCLES, 7);
        CHECKS.badArgument("setCycles(0)", () -> x.setCycles(0));
        CHECKS.badArgument("setCycles(21)", () -> x.setCycles(21));
        CHECKS.badArgument("setCycles(-1)", () -> x.setCycles(-1));
        x.addSegment(200, 400, 0, 1);
        x.start();
        CHECKS.badState("setCycles while a program runs", () -> x.setCycles(2));
        CHECKS.badArgument("wrong setCycles while it runs", () -> x.setCycles(21));
        due("doneIn with 7 cycles", 7, x.doneIn());
    }

    // ---- promise 10

    private void start() {
        CHECKS.badState("start without segments", () -> x.start());
        x.addSegment(260, 500, 4, 2);
        x.addSegment(260, 500, 0, 2);
        x.setCycles(3);
        x.pass(2);
        due("start", 2, x.start());
        dueValues("started", PHASE, 1, SEGMENT, 0, CYCLE, 1, HELD, 0, RAMP_CLOCK, 0, SOAK_CLOCK, 0,
            PAUSED, 0, TIME, 2, TEMPERATURE_POINT, 200, HUMIDITY_POINT, 400);
        dueEntry(1, 1, 2, 2);
        dueEntry(0, 2, 0, 2);
        CHECKS.badState("start while a program runs", () -> x.start());
        x.stop();
        x.removeSegment(0);
        due("start with a soak", 1, x.start());
        dueValues("started with a soak", PHASE, 2, SEGMENT, 0, CYCLE, 1);
    }

    private void ramp() {
        x.addSegment(213, 397, 4, 1);
        x.start();
        x.pass(1);
        // 200 + 13 * 1 / 4 and 400 - 3 * 1 / 4
        dueValues("ramp 1", TEMPERATURE_POINT, 203, HUMIDITY_POINT, 400, RAMP_CLOCK, 1, PHASE, 1,
            TEMPERATURE, 203);
        x.pass(1);
        dueValues("ramp 2", TEMPERATURE_POINT, 206, HUMIDITY_POINT, 399, RAMP_CLOCK, 2, PHASE, 1);
        x.pass(1);
        dueValues("ramp 3", TEMPERATURE_POINT, 209, HUMIDITY_POINT, 398, RAMP_CLOCK, 3, PHASE, 1);
        x.pass(1);
        dueValues("ramp 4", TEMPERATURE_POINT, 213, HUMIDITY_POINT, 397, RAMP_CLOCK, 4, PHASE, 2,
            SOAK_CLOCK, 0, PAUSED, 0);
        x.pass(1);
        dueValues("soak", RAMP_CLOCK, 4, SOAK_CLOCK, 1, PHASE, 3, SEGMENT, NONE, CYCLE, NONE);
        dueEntry(1, 3, 0, 4);
        dueEntry(0, 4, 1, 4);
        dueResult(0, 0, 1, 5, 0);
    }

    /** A ramp starts from the values, not from the set points. */
    private void rampWithoutSoak() {
        x.addSegment(300, 400, 2, 0);
        x.addSegment(200, 400, 2, 0);
        x.addSegment(200, 400, 0, 1);
        x.setPoints(1000, 1000);
        x.start();
        x.pass(1);
        dueValues("half the ramp", TEMPERATURE_POINT, 250, TEMPERATURE, 220, HUMIDITY_POINT, 400);
        x.pass(1);
        // the ramp is over: its segment is complete at once, and the next one begins at 240
        dueValues("second ramp", PHASE, 1, SEGMENT, 1, TEMPERATURE_POINT, 300, TEMPERATURE, 240,
            RAMP_CLOCK, 0);
        dueEntry(1, 3, 0, 1);
        dueEntry(0, 2, 1, 1);
        dueResult(0, 0, 1, 2, 0);
        x.pass(1);
        dueValues("half the second ramp", TEMPERATURE_POINT, 220, RAMP_CLOCK, 1);
        x.pass(1);
        dueValues("the soak has not begun to count", PHASE, 2, SEGMENT, 2, SOAK_CLOCK, 0, PAUSED, 0,
            TEMPERATURE_POINT, 200);
        dueResult(0, 1, 1, 2, 0);
        x.pass(1);
        dueValues("too warm to soak", PHASE, 2, SOAK_CLOCK, 0, PAUSED, 1);
    }

    private void soak() {
        x.addSegment(230, 420, 0, 2);
        x.start();
        x.pass(1);
        // 220 is 10 off, the tolerance is 5
        dueValues("too cold", TEMPERATURE_POINT, 230, HUMIDITY_POINT, 420, SOAK_CLOCK, 0, PAUSED, 1);
        x.pass(1);
        dueValues("warm", TEMPERATURE, 230, SOAK_CLOCK, 1, PAUSED, 1, PHASE, 2);
        x.pass(1);
        dueValues("done", SOAK_CLOCK, 2, PHASE, 3, TEMPERATURE_POINT, 230, HUMIDITY_POINT, 420);
        dueEntry(1, 3, 1, 2);
        dueResult(0, 0, 1, 3, 1);
        fresh();
        x.set(4, 0);
        x.setMode(0, 0, 50, 50);
        x.setMode(1, 0, 50, 50);
        x.addSegment(205, 420, 0, 1);
        x.start();
        x.pass(1);
        dueValues("just within both tolerances", PHASE, 3);
        fresh();
        x.setMode(0, 0, 50, 50);
        x.addSegment(206, 400, 0, 1);
        x.start();
        x.pass(1);
        dueValues("just beyond the temperature tolerance", PHASE, 2, PAUSED, 1);
        fresh();
        x.setMode(1, 0, 50, 50);
        x.addSegment(200, 379, 0, 1);
        x.start();
        x.pass(1);
        dueValues("just beyond the humidity tolerance", PHASE, 2, PAUSED, 1);
        x.set(7, 21);
        x.pass(1);
        dueValues("just within the new humidity tolerance", PHASE, 3);
        dueResult(0, 0, 1, 2, 1);
    }

    private void patience() {
        x.set(11, 2);
        x.addSegment(200, 400, 0, 1);
        x.addSegment(1800, 400, 0, 1);
        x.start();
        x.pass(3);
        dueValues("as long as the patience", PHASE, 2, SEGMENT, 1, PAUSED, 2);
        x.pass(1);
        dueValues("longer", PHASE, 4, SEGMENT, NONE, CYCLE, NONE, PAUSED, 3, TEMPERATURE_POINT, 1800,
            HELD, 0);
        dueEntry(0, 5, 1, 3);
        CHECKS.badState("doneIn of a failed program", () -> x.doneIn());
        x.pass(5);
        dueValues("behind a failed program", TEMPERATURE_POINT, 1800, PAUSED, 3, TEMPERATURE, 353);
        fresh();
        x.addSegment(240, 400, 0, 2);
        x.start();
        x.pass(1);
        x.set(11, 0);
        x.pass(1);
        // complete is looked at first, then the patience, whether this minute paused or not
        dueValues("within tolerance, but out of patience", PHASE, 4, SOAK_CLOCK, 1, PAUSED, 1);
        fresh();
        x.addSegment(240, 400, 0, 1);
        x.start();
        x.pass(1);
        x.set(11, 0);
        x.pass(1);
        dueValues("complete although out of patience", PHASE, 3, SOAK_CLOCK, 1, PAUSED, 1);
    }

    private void cyclesOfAProgram() {
        x.addSegment(200, 400, 0, 1);
        x.addSegment(210, 400, 1, 0);
        x.setCycles(2);
        x.start();
        x.pass(2);
        dueValues("second cycle", SEGMENT, 0, CYCLE, 2, PHASE, 2);
        dueEntry(1, 3, 0, 1);
        dueEntry(0, 2, 0, 1);
        dueResult(0, 1, 1, 1, 0);
        x.set(6, 100);
        x.pass(1);
        dueResult(0, 0, 2, 1, 0);
        x.pass(1);
        dueValues("done", PHASE, 3);
        dueResult(0, 1, 2, 1, 0);
        dueEntry(0, 4, 2, 3);
        dueEntry(1, 3, 0, 3);
        due("restart", 2, x.start());
        dueValues("restarted", CYCLE, 1, SEGMENT, 0);
    }

    // ---- promise 11

    private void stop() {
        CHECKS.badState("stop without a program", () -> x.stop());
        x.addSegment(200, 400, 0, 2);
        x.addSegment(250, 450, 10, 10);
        x.start();
        x.pass(3);
        x.hold(true);
        due("stop", 1, x.stop());
        dueValues("stopped", PHASE, 0, HELD, 0, SEGMENT, NONE, CYCLE, NONE, RAMP_CLOCK, 1,
            TEMPERATURE_POINT, 205, HUMIDITY_POINT, 405);
        dueEntry(0, 6, 1, 3);
        CHECKS.badState("stop twice", () -> x.stop());
        x.pass(1);
        dueValues("behind a stopped program", TEMPERATURE_POINT, 205, HUMIDITY_POINT, 405,
            RAMP_CLOCK, 1);
    }

    // ---- promise 12

    private void hold() {
        CHECKS.badState("hold without a program", () -> x.hold(true));
        CHECKS.badState("no hold without a program", () -> x.hold(false));
        x.addSegment(220, 420, 4, 1);
        x.start();
        CHECKS.badState("not held already", () -> x.hold(false));
        x.pass(1);
        due("hold in a ramp", 1, x.hold(true));
        CHECKS.badState("held already", () -> x.hold(true));
        x.pass(5);
        dueValues("held in a ramp", RAMP_CLOCK, 1, TEMPERATURE_POINT, 205, HELD, 1, PHASE, 1);
        due("go on", 1, x.hold(false));
        x.pass(3);
        due("hold in a soak", 2, x.hold(true));
        x.pass(4);
        dueValues("held in a soak", SOAK_CLOCK, 0, PAUSED, 0, HELD, 1, PHASE, 2);
        due("go on in a soak", 2, x.hold(false));
        x.pass(1);
        dueValues("done", PHASE, 3, HELD, 0);
        // held minutes count
        dueResult(0, 0, 1, 14, 0);
        x.start();
        x.hold(true);
        x.stop();
        x.start();
        dueValues("started anew", HELD, 0);
    }

    // ---- promise 13

    private void undo() {
        CHECKS.badState("undo of nothing", () -> x.undo());
        for (int i = 1; i <= 8; i++) {
            x.setPoints(200 + i, 400);
            dueValues("saved", SAVED, Math.min(i, 6));
        }
        for (int i = 1; i <= 6; i++) {
            due("undo " + i, 6 - i, x.undo());
            dueValues("undone " + i, TEMPERATURE_POINT, 208 - i, SAVED, 6 - i);
        }
        CHECKS.badState("undo of more than six", () -> x.undo());
        x.set(0, 20);
        dueValues("a call that changes nothing is saved", SAVED, 1);
        due("undo of it", 0, x.undo());
        type("t1");
        x.set(0, 30);
        x.append('h');
        x.undo();
        dueValues("the buffer stays", LENGTH, 3);
        for (int i = 0; i < 4; i++) {
            x.setPoints(300 + i, 400);
        }
        x.undo();
        x.undo();
        x.setPoints(350, 400);
        due("undo behind undo", 2, x.undo());
        dueValues("undone", TEMPERATURE_POINT, 301);
    }

    /** What undo restores, but no method tells: it shows only in what comes then. */
    private void undoOfHiddenState() {
        x.addSegment(220, 420, 4, 1);
        x.start();
        x.pass(2);
        x.stop();
        x.start();
        x.pass(1);
        x.undo();
        x.undo();
        x.undo();
        x.pass(1);
        dueValues("the first start values", TEMPERATURE_POINT, 215, HUMIDITY_POINT, 415);
        x.pass(2);
        dueResult(0, 0, 1, 5, 0);
        fresh();
        x.set(8, 30);
        x.setPoints(220, 400);
        x.pass(1);
        x.setPoints(200, 400);
        x.pass(1);
        x.setPoints(220, 400);
        x.pass(1);
        x.undo();
        x.undo();
        x.pass(1);
        dueEntry(0, 9, 2, 1);
        due("blocked in the minute before as well", NONE, x.audit(1, 0));
        fresh();
        x.setMode(0, 1, 30, 0);
        x.setMode(1, 1, 40, 0);
        x.setMode(1, 0, 80, 9);
        x.setMode(0, 2, 70, 9);
        x.undo();
        x.undo();
        x.set(5, 0);
        x.setPoints(210, 410);
        due("the gain of the temperature", 203, x.pass(1));
        dueValues("the gain of the humidity", HUMIDITY, 404);
        x.undo();
        x.setMode(0, 0, 30, 9);
        x.undo();
        due("the mode of the temperature", 1, x.setMode(0, 0, 1, 0));
        due("the mode of the humidity", 1, x.setMode(1, 0, 1, 0));
    }

    // ---- promise 14

    private void value() {
        CHECKS.badArgument("value(-1)", () -> x.value(-1));
        CHECKS.badArgument("value(25)", () -> x.value(25));
        CHECKS.badArgument("value(MAX)", () -> x.value(Integer.MAX_VALUE));
        x.set(0, 4);
        x.setPoints(260, 500);
        x.pass(1);
        // output 4, coupled -1, error 101; then error 500 - 409 + 1
        x.addSegment(300, 500, 5, 5);
        x.addSegment(300, 500, 5, 5);
        x.setCycles(3);
        x.start();
        x.pass(2);
        x.hold(true);
        x.door(true);
        type("abc");
        // starts from 204 and 409: 204 + 96 * 2 / 5 and 409 + 91 * 2 / 5
        dueValues("in a ramp", 0, 3, 1, 212, 2, 427, 3, 242, 4, 445, 5, 1, 6, 1, 7, 1, 8, 0, 9, 1,
            10, 2, 11, 0, 12, 0, 13, 3, 14, 0, 15, 3, 16, 0, 17, 0, 18, 0, 19, 1000, 20, 42, 21, 2,
            22, 3, 23, 6, 24, 3);
        fresh();
        x.setPoints(100, 300);
        x.pass(2);
        // first minute: output -15, coupled 4, moisture -10: 185, 394; no loss (15 * 2 / 100 = 0)
        dueValues("cooling", 1, 170, 2, 388, 13, 0, 14, 2, 15, 0, 16, 2, 18, 1000, 19, 0, 20, 50);
        x.setPoints(300, 388);
        x.pass(2);
        dueValues("heating blocked", 17, 2, 19, 2, 13, 0);
        fresh();
        x.addSegment(215, 400, 0, 5);
        x.addSegment(215, 400, 1, 5);
        x.start();
        x.pass(3);
        dueValues("in a soak", 5, 2, 8, 0, 11, 3, 12, 0);
        x.pass(3);
        dueValues("in the second ramp", 5, 2, 8, 1, 10, 1, 11, 0, 12, 0);
        x.stop();
        dueValues("clocks behind a program", 8, NONE, 9, NONE, 10, 1, 11, 0);
    }

    // ---- promise 15

    private void setting() {
        for (int i = 0; i < 12; i++) {
            due("setting(" + i + ")", FIRST[i], x.setting(i));
        }
        x.set(9, -200);
        due("setting(9) when changed", -200, x.setting(9));
        CHECKS.outOfBounds("setting(-1)", () -> x.setting(-1));
        CHECKS.outOfBounds("setting(12)", () -> x.setting(12));
        CHECKS.outOfBounds("setting(MAX)", () -> x.setting(Integer.MAX_VALUE));
    }

    // ---- promise 16

    private void segment() {
        CHECKS.outOfBounds("segment of none", () -> x.segment(0, 0));
        x.addSegment(-300, 900, 7, 8);
        x.addSegment(100, 200, 300, 400);
        due("segment(0, 0)", -300, x.segment(0, 0));
        due("segment(0, 1)", 900, x.segment(0, 1));
        due("segment(0, 2)", 7, x.segment(0, 2));
        due("segment(0, 3)", 8, x.segment(0, 3));
        due("segment(1, 0)", 100, x.segment(1, 0));
        due("segment(1, 3)", 400, x.segment(1, 3));
        CHECKS.outOfBounds("segment(2, 0)", () -> x.segment(2, 0));
        CHECKS.outOfBounds("segment(-1, 0)", () -> x.segment(-1, 0));
        CHECKS.outOfBounds("segment(2, 4)", () -> x.segment(2, 4));
        CHECKS.badArgument("segment(0, -1)", () -> x.segment(0, -1));
        CHECKS.badArgument("segment(0, 4)", () -> x.segment(0, 4));
        CHECKS.outOfBounds("segment(MAX, 0)", () -> x.segment(Integer.MAX_VALUE, 0));
    }

    // ---- promise 17

    private void result() {
        CHECKS.badArgument("result(-1, 0)", () -> x.result(-1, 0));
        CHECKS.badArgument("result(0, -1)", () -> x.result(0, -1));
        CHECKS.badArgument("result(0, 4)", () -> x.result(0, 4));
        CHECKS.badArgument("result(MIN, 0)", () -> x.result(Integer.MIN_VALUE, 0));
        due("result(MAX, 0)", NONE, x.result(Integer.MAX_VALUE, 0));
        x.addSegment(200, 400, 0, 1);
        x.addSegment(200, 400, 2, 0);
        x.addSegment(220, 400, 0, 3);
        x.setCycles(6);
        x.set(6, 15);
        x.start();
        x.pass(6);
        dueResult(0, 2, 1, 3, 0);
        dueResult(1, 1, 1, 2, 0);
        dueResult(2, 0, 1, 1, 0);
        due("no fourth result", NONE, x.result(3, 0));
        // 20 off in a blocked minute, then 220 - 15, which is within the tolerance
        x.pass(2);
        dueResult(0, 0, 2, 2, 1);
        x.pass(100);
        dueValues("done", PHASE, 3);
        dueResult(0, 2, 6, x.result(0, 2), x.result(0, 3));
        due("the sixteenth result", 2, x.result(15, 0));
        due("its cycle", 1, x.result(15, 1));
        due("its minutes", 3, x.result(15, 2));
        due("no seventeenth result", NONE, x.result(16, 0));
        due("no seventeenth result", NONE, x.result(16, 3));
        for (int i = 0; i < 16; i++) {
            due("segment of result " + i, 2 - i % 3, x.result(i, 0));
            due("cycle of result " + i, 6 - i / 3, x.result(i, 1));
        }
    }

    // ---- promise 18

    private void audit() {
        CHECKS.badArgument("audit(-1, 0)", () -> x.audit(-1, 0));
        CHECKS.badArgument("audit(0, -1)", () -> x.audit(0, -1));
        CHECKS.badArgument("audit(0, 3)", () -> x.audit(0, 3));
        due("audit(MAX, 0)", NONE, x.audit(Integer.MAX_VALUE, 0));
        for (int i = 0; i < 30; i++) {
            x.door(i % 2 == 0);
            x.pass(1);
            due("kind of the latest", i % 2 == 0 ? 7 : 8, x.audit(0, 0));
            due("the oldest kept", i < 24 ? NONE : i % 2 == 0 ? 8 : 7, x.audit(i < 24 ? i + 1 : 23, 0));
        }
        for (int i = 0; i < 24; i++) {
            dueEntry(i, i % 2 == 0 ? 8 : 7, 0, 29 - i);
        }
        due("no entry 24", NONE, x.audit(24, 0));
        due("no entry 24", NONE, x.audit(24, 2));
    }

    // ---- promise 19

    private void auditCode() {
        long code = 17;
        x.door(true);
        code = 31 * code + 7000;
        due("code of an open door", code, x.auditCode());
        x.door(false);
        code = 31 * code + 8000;
        x.addSegment(220, 400, 0, 1);
        x.addSegment(1800, 400, 0, 1);
        x.setCycles(2);
        x.set(11, 1);
        x.start();
        code = 31 * (31 * code + 1002) + 2000;
        due("code of a start", code, x.auditCode());
        x.pass(3);
        code = 31 * (31 * (31 * code + 3000) + 2001) + 5001;
        due("code of a failure", code, x.auditCode());
        x.removeSegment(1);
        x.set(11, 1000);
        x.set(6, 100);
        x.start();
        x.stop();
        code = 31 * (31 * (31 * code + 1001) + 2000) + 6000;
        due("code of a stop", code, x.auditCode());
        x.start();
        code = 31 * (31 * code + 1001) + 2000;
        // 260 - 220 is within the tolerance at once, cooling is blocked at once
        x.pass(2);
        code = 31 * (31 * (31 * code + 9002) + 3000) + 2000;
        code = 31 * (31 * code + 3000) + 4002;
        due("code of a done program", code, x.auditCode());
        x.pass(1);
        x.door(true);
        x.undo();
        due("code behind undo", code, x.auditCode());
        for (int i = 0; i < 20; i++) {
            code = x.auditCode();
            x.door(i % 2 == 0);
            due("code with overflow", 31 * code + (i % 2 == 0 ? 7000 : 8000), x.auditCode());
        }
    }

    // ---- promise 20

    private void history() {
        CHECKS.badArgument("history(-1)", () -> x.history(-1));
        CHECKS.badArgument("history(MIN)", () -> x.history(Integer.MIN_VALUE));
        x.set(0, 1);
        x.set(4, 0);
        x.setMode(0, 0, 50, 0);
        x.setPoints(300, 400);
        for (int i = 1; i <= 70; i++) {
            x.pass(1);
            due("latest", 200 + i, x.history(0));
            due("the oldest kept", Math.max(201, 141 + i), x.history(Math.min(i, 60) - 1));
            due("beyond the oldest", NONE, x.history(Math.min(i, 60)));
        }
        for (int back = 0; back < 60; back++) {
            due("history(" + back + ")", 270 - back, x.history(back));
        }
        due("history(60)", NONE, x.history(60));
        due("history(MAX)", NONE, x.history(Integer.MAX_VALUE));
    }

    // ---- promise 21

    private void spread() {
        CHECKS.badArgument("spread(0)", () -> x.spread(0));
        CHECKS.badArgument("spread(61)", () -> x.spread(61));
        CHECKS.badArgument("spread(-1)", () -> x.spread(-1));
        due("spread of nothing", 0, x.spread(60));
        x.set(4, 0);
        x.set(8, 0);
        x.setPoints(220, 400);
        x.pass(1);
        due("spread of one", 0, x.spread(60));
        x.setPoints(190, 400);
        x.pass(2);
        x.setPoints(197, 400);
        x.pass(1);
        // 220, 205, 190, 197
        due("spread(1)", 0, x.spread(1));
        due("spread(2)", 7, x.spread(2));
        due("spread(3)", 15, x.spread(3));
        due("spread(4)", 30, x.spread(4));
        due("spread(5)", 30, x.spread(5));
        x.pass(56);
        due("spread(60) with the first", 30, x.spread(60));
        due("spread(59) without the first", 15, x.spread(59));
        x.pass(1);
        due("spread(60) without the first", 15, x.spread(60));
    }

    // ---- promise 22

    private void mean() {
        CHECKS.badArgument("mean(0)", () -> x.mean(0));
        CHECKS.badArgument("mean(61)", () -> x.mean(61));
        CHECKS.badArgument("mean(MIN)", () -> x.mean(Integer.MIN_VALUE));
        CHECKS.dueDouble("mean of nothing", 0.0, x.mean(60));
        x.set(4, 0);
        x.set(8, 0);
        x.setPoints(220, 400);
        x.pass(1);
        x.setPoints(190, 400);
        x.pass(2);
        x.setPoints(197, 400);
        x.pass(1);
        // 220, 205, 190, 197
        CHECKS.dueDouble("mean(1)", 197.0, x.mean(1));
        CHECKS.dueDouble("mean(2)", 193.5, x.mean(2));
        CHECKS.dueDouble("mean(3)", 592.0 / 3.0, x.mean(3));
        CHECKS.dueDouble("mean(4)", 203.0, x.mean(4));
        CHECKS.dueDouble("mean(60)", 203.0, x.mean(60));
        x.pass(56);
        CHECKS.dueDouble("mean(60) with the first", (615.0 + 57 * 197) / 60.0, x.mean(60));
        x.pass(1);
        CHECKS.dueDouble("mean(60) without the first", (395.0 + 58 * 197) / 60.0, x.mean(60));
    }

    // ---- promise 23

    private void valueIn() {
        CHECKS.outOfBounds("channel -1", () -> x.valueIn(-1, 0));
        CHECKS.outOfBounds("channel 2", () -> x.valueIn(2, 0));
        CHECKS.outOfBounds("channel 2 and wrong minutes", () -> x.valueIn(2, 301));
        CHECKS.badArgument("minutes -1", () -> x.valueIn(0, -1));
        CHECKS.badArgument("minutes 301", () -> x.valueIn(1, 301));
        x.setPoints(260, 430);
        due("now", 200, x.valueIn(0, 0));
        due("humidity now", 400, x.valueIn(1, 0));
        due("in a minute", 220, x.valueIn(0, 1));
        due("humidity in a minute", 404, x.valueIn(1, 1));
        due("in three minutes", 260, x.valueIn(0, 3));
        int later = x.valueIn(0, 300);
        int moistLater = x.valueIn(1, 300);
        due("as pass", later, x.pass(300));
        dueValues("as pass", HUMIDITY, moistLater);
        fresh();
        x.addSegment(240, 440, 10, 10);
        x.start();
        // the program goes on: 200 + 40 * 5 / 10
        due("in a ramp", 220, x.valueIn(0, 5));
    }

    private void beyondTheLimitOfTime() {
        for (int i = 0; i < 40; i++) {
            x.pass(500);
        }
        x.setPoints(260, 430);
        due("valueIn", 260, x.valueIn(0, 3));
        due("reachIn", 2, x.reachIn(240));
        due("bestMode", 0, x.bestMode(200));
        x.addSegment(200, 400, 0, 5);
        x.start();
        due("doneIn", 5, x.doneIn());
        dueValues("at the limit of time", TIME, 20000);
    }

    // ---- promise 24

    private void doneIn() {
        CHECKS.badState("doneIn without a program", () -> x.doneIn());
        x.addSegment(200, 400, 500, 499);
        x.addSegment(200, 400, 1, 0);
        x.start();
        due("1000 minutes", 1000, x.doneIn());
        x.stop();
        x.removeSegment(1);
        x.addSegment(200, 400, 2, 0);
        x.start();
        due("1001 minutes", NONE, x.doneIn());
        x.pass(1);
        due("1000 minutes left", 1000, x.doneIn());
        x.hold(true);
        due("held", NONE, x.doneIn());
        x.hold(false);
        x.pass(500);
        x.pass(499);
        due("the last minute", 1, x.doneIn());
        x.pass(1);
        dueValues("done", PHASE, 3);
        CHECKS.badState("doneIn behind a program", () -> x.doneIn());
        fresh();
        x.set(11, 0);
        x.addSegment(1000, 400, 0, 1);
        x.start();
        due("fails", NONE, x.doneIn());
        x.set(11, 60);
        x.set(6, 100);
        x.set(4, 0);
        // 200 + 20 * 35 is 100 off
        due("in 35 minutes", 35, x.doneIn());
        x.door(true);
        due("the door is open", NONE, x.doneIn());
    }

    // ---- promise 25

    private void reachIn() {
        CHECKS.badArgument("reachIn(-401)", () -> x.reachIn(-401));
        CHECKS.badArgument("reachIn(1801)", () -> x.reachIn(1801));
        due("reached", 0, x.reachIn(205));
        due("reached from above", 0, x.reachIn(195));
        due("not yet", 1, x.reachIn(206));
        due("not yet from above", 1, x.reachIn(194));
        due("two minutes", 2, x.reachIn(226));
        due("never", NONE, x.reachIn(1800));
        due("never cold", NONE, x.reachIn(-400));
        x.set(4, 0);
        x.set(6, 0);
        x.set(0, 2);
        x.setMode(0, 0, 50, 0);
        due("500 minutes", 500, x.reachIn(1200));
        due("501 minutes", NONE, x.reachIn(1201));
        fresh();
        x.addSegment(300, 400, 0, 500);
        x.start();
        x.door(true);
        due("as if no program ran and the door was closed", 2, x.reachIn(240));
        x.door(false);
        x.pass(1);
        // 220, and the cooler waits three minutes
        due("with the rest", 4, x.reachIn(210));
    }

    // ---- promise 26

    private void bestMode() {
        CHECKS.badArgument("bestMode(0)", () -> x.bestMode(0));
        CHECKS.badArgument("bestMode(201)", () -> x.bestMode(201));
        CHECKS.badArgument("bestMode(MIN)", () -> x.bestMode(Integer.MIN_VALUE));
        due("the lowest of several", 0, x.bestMode(200));
        x.set(4, 0);
        x.setPoints(204, 400);
        x.setMode(0, 2, 100, 5);
        // error 4 within the band 5: only mode 1 answers it
        due("mode 1", 1, x.bestMode(1));
        x.setMode(0, 0, 10, 3);
        due("mode 0", 0, x.bestMode(1));
        x.setPoints(1800, 400);
        x.setMode(0, 1, 1, 2);
        due("the lowest of 0 and 2", 0, x.bestMode(20));
        fresh();
        x.set(4, 20);
        x.setPoints(250, 400);
        x.setMode(0, 0, 50, 2);
        // mode 0 stays (250 - 200) * 20 / 100 = 10 below; mode 2 goes to and fro, from 240 to 252
        due("mode 2", 2, x.bestMode(200));
        fresh();
        x.addSegment(240, 400, 10, 100);
        x.start();
        x.setMode(0, 0, 100, 5);
        // in a ramp of 4 a minute, the band 5 holds the modes 0 and 2 back
        due("in a ramp", 1, x.bestMode(10));
        fresh();
        x.set(0, 27);
        x.set(4, 20);
        x.set(9, 325);
        x.setPoints(251, 400);
        // lost 25: mode 0 comes to 252, mode 1 with the first gain, 50, to 250
        due("the first gain", 0, x.bestMode(1));
        fresh();
        x.set(0, 10);
        x.set(9, 0);
        x.setMode(0, 0, 100, 5);
        x.setPoints(204, 400);
        // the modes come to 196 and 201, 200 and 200, 196 and 203: sums 11, 8, 9
        due("the least of three", 1, x.bestMode(2));
        fresh();
        x.set(4, 0);
        x.setMode(0, 0, 100, 2);
        x.setPoints(222, 400);
        // each comes to 220, then mode 1 alone to 222
        due("in a minute", 0, x.bestMode(1));
        due("in two minutes", 1, x.bestMode(2));
    }

    // ---- promise 27

    private void append() {
        CHECKS.badArgument("append(31)", () -> x.append(31));
        CHECKS.badArgument("append(127)", () -> x.append(127));
        CHECKS.badArgument("append(-1)", () -> x.append(-1));
        CHECKS.badArgument("append(MAX)", () -> x.append(Integer.MAX_VALUE));
        due("append(32)", 1, x.append(32));
        due("append(126)", 2, x.append(126));
        for (int i = 3; i <= 90; i++) {
            due("append", i, x.append('t'));
        }
        CHECKS.badState("append to 90 characters", () -> x.append('t'));
        CHECKS.badArgument("wrong append to 90 characters", () -> x.append(127));
        dueValues("a full text", LENGTH, 90, SAVED, 0);
        due("errorPosition of a full text", 0, x.errorPosition());
    }

    // ---- promise 28

    private void clear() {
        due("clear of nothing", 0, x.clear());
        type("t12");
        due("clear", 3, x.clear());
        dueValues("behind clear", LENGTH, 0, SAVED, 0);
        due("append behind clear", 1, x.append('t'));
        due("the old characters are gone", 1, x.errorPosition());
        x.clear();
        type("t1h1r1s1;");
        x.clear();
        type("t1h1r1s1");
        due("the old characters do not come back", 8, x.errorPosition());
    }

    // ---- promise 29

    private void errorPosition() {
        dueError("", 0);
        dueError("t200h400r1s1;", NONE);
        dueError("t-400h0r500s0;t1800h1000r0s500;", NONE);
        dueError("t0000h0000r0000s0001;", NONE);
        dueError("t-0h0r0s1;", NONE);
        dueError("x", 0);
        dueError(" t1h1r1s1;", 0);
        dueError("T1h1r1s1;", 0);
        dueError("t", 1);
        dueError("th", 1);
        dueError("t-", 2);
        dueError("t--1", 2);
        dueError("t-h", 2);
        dueError("t1-", 2);
        dueError("t1", 2);
        dueError("t1 h", 2);
        dueError("t12345", 5);
        dueError("t-1234h", 7);
        dueError("t-12345", 6);
        dueError("t1h", 3);
        dueError("t1h-1", 3);
        dueError("t1h12345", 7);
        dueError("t1h1s1", 4);
        dueError("t1h1r-1", 5);
        dueError("t1h1r12345", 9);
        dueError("t1h1r1r1", 6);
        dueError("t1h1r1s-1;", 7);
        dueError("t1h1r1s12345;", 11);
        dueError("t1h1r1s1", 8);
        dueError("t1h1r1s1t", 8);
        dueError("t1h1r1s;", 7);
        dueError("t1h1r1s1;;", 9);
        dueError("t1h1r1s1; ", 9);
        dueError("t1h1r1s1;t", 10);
        dueError("t1h1r1s1;u1h1r1s1;", 9);
        dueError("t1h1r1s/;", 7);
        dueError("t1h1r1s:;", 7);
        dueError("tt1h1r1s1;", 1);
        dueError("t1t1h1r1s1;", 2);
        dueError("t1ht1h1r1s1;", 3);
        dueError("t1h1t1h1r1s1;", 4);
        dueError("t1h1rt1h1r1s1;", 5);
        dueError("t1h1r1t1h1r1s1;", 6);
        dueError("t1h1r1st1h1r1s1;", 7);
        dueError("t1h1r1s1t1h1r1s1;", 8);
        dueError("t1801h1r1s1;", 0);
        dueError("t-401h1r1s1;", 0);
        dueError("t1h1001r1s1;", 0);
        dueError("t1h1r501s1;", 0);
        dueError("t1h1r1s501;", 0);
        dueError("t1h1r0s0;", 0);
        dueError("t1h1r0s1;t1h1r0s0;t1801h1r1s1;", 9);
        dueError("t1h1r1s1;t1h1r1s1;t1h1r1s501;", 18);
        dueError("t1801h1r1s1;t1h1r1s1", 20);
        dueError("t1801h1r1s1;t1h1r1s1;x", 21);
        dueError("t1h1r1s1;t2h1r1s1;t3h1r1s1;t4h1r1s1;t5h1r1s1;t6h1r1s1;t7h1r1s1;t8h1r1s1;"
            + "t9h1r1s1;t0h1r1s1;", NONE);
        dueError("t1h1r1s1;t2h1r1s1;t3h1r1s1;t4h1r1s1;t5h1r1s1;t6h1r1s1;t7h1r1s1;t8h1r1s1;"
            + "t9h1r1s1;t0h1r0s0;", 81);
    }

    // ---- promise 30

    private void load() {
        CHECKS.badArgument("load of nothing", () -> x.load());
        x.addSegment(1, 2, 3, 4);
        x.addSegment(1, 2, 3, 4);
        x.addSegment(1, 2, 3, 4);
        type("t-25h400r3s20;t1800h0r0s5;");
        due("load", 2, x.load());
        dueValues("loaded", SEGMENTS, 2, LENGTH, 0, SAVED, 4);
        int[] want = {-25, 400, 3, 20, 1800, 0, 0, 5};
        for (int i = 0; i < want.length; i++) {
            due("loaded number " + i, want[i], x.segment(i / 4, i % 4));
        }
        x.undo();
        dueValues("load undone", SEGMENTS, 3, LENGTH, 0);
        due("segment behind undo", 3, x.segment(2, 2));
        type("t1h1r0s0;");
        CHECKS.badArgument("load of a segment out of range", () -> x.load());
        dueValues("nothing loaded", SEGMENTS, 3, LENGTH, 9, SAVED, 3);
        x.clear();
        x.start();
        type("t1h1r1s1;");
        CHECKS.badState("load while a program runs", () -> x.load());
        dueValues("not loaded", SEGMENTS, 3, LENGTH, 9);
        x.append('t');
        CHECKS.badArgument("wrong load while a program runs", () -> x.load());
        x.clear();
        x.stop();
        type("t7h1r1s1;");
        due("load behind a program", 1, x.load());
        due("loaded temperature", 7, x.segment(0, 0));
    }
}
