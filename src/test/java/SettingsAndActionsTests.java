/** A test for each sentence of the promises 1 to 6 that names a boundary case. */
public final class SettingsAndActionsTests extends Sentences {

    private static final int[] FIRST = {20, 15, 10, 10, 2, 3, 5, 20, 3, 200, 400, 60};
    private static final int[] LEAST = {1, 1, 1, 1, 0, 0, 0, 0, 0, -200, 0, 0};
    private static final int[] GREATEST = {50, 50, 50, 50, 20, 20, 100, 200, 30, 500, 1000, 1000};

    private SettingsAndActionsTests() {
        super("settings and actions");
    }

    public static void main(String[] args) {
        new SettingsAndActionsTests().run();
    }

    private void run() {
        section("Promise 1: A new object");
        newObject();
        endOfSection();
        section("Promise 2: set");
        set();
        endOfSection();
        section("Promise 3: setMode");
        setMode();
        setModeRefused();
        endOfSection();
        section("Promise 4: setPoints");
        setPoints();
        endOfSection();
        section("Promise 5: door");
        door();
        endOfSection();
        section("Promise 6: pass");
        pass();
        endOfSection();
        finish();
    }

    private void newObject() {
        test("Creates a chamber at the time 0, without segments.", x -> {
            dueValues(x, TIME, 0, SEGMENTS, 0, PHASE, IDLE, SEGMENT, NONE, CYCLE, NONE, RAMP_CLOCK, 0,
                SOAK_CLOCK, 0, PAUSED, 0, HELD, 0, SAVED, 0, LENGTH, 0);
            refuse(OUT, y -> { }, y -> y.segment(0, 0), y -> y.removeSegment(0));
            refuse(STATE, y -> { }, y -> y.start(), y -> y.stop(), y -> y.undo());
        });
        test("Creates a chamber at the time 0, without segments.", x -> {
            dueValues(x, HEATER, 0, COOLER, 0, HUMIDIFIER, 0, DRYER, 0, BLOCKED, 0, ENERGY, 0);
            due(NONE, x.result(0, 0));
            due(NONE, x.audit(0, 0));
            due(NONE, x.history(0));
            due(0, x.errorPosition());
        });
        test("Creates a chamber", x -> {
            // one chamber knows nothing of another
            ClimateChamber other = make(RAMPING);
            dueValues(x, TIME, 0, SEGMENTS, 0, PHASE, IDLE, SAVED, 0);
            x.set(0, 50);
            due(30, other.setting(0));
            due(20, new ClimateChamber().setting(0));
        });
    }

    private void set() {
        test("`index`: 0 to 11", x -> {
            due(20, x.set(0, 21));
            due(60, x.set(11, 61));
            due(21, x.setting(0));
            due(61, x.setting(11));
            refuse(OUT, y -> { }, y -> y.set(-1, 1), y -> y.set(12, 1));
        });
        test("`value`: the new value, in its range", x -> {
            for (int i = 0; i < 12; i++) {
                int index = i;
                x.set(i, LEAST[i]);
                due(LEAST[i], x.setting(i));
                x.set(i, GREATEST[i]);
                due(GREATEST[i], x.setting(i));
                refuse(ARGUMENT, y -> { }, y -> y.set(index, LEAST[index] - 1),
                    y -> y.set(index, GREATEST[index] + 1));
            }
        });
        test("Undoable.", x -> {
            for (int i = 0; i < 12; i++) {
                int index = i;
                undoable(IDLE_ONE, y -> y.set(index, LEAST[index]));
                undoable(RAMPING, y -> y.set(index, GREATEST[index]));
            }
            undoable(y -> { }, y -> y.set(0, 20));
        });
        test("Returns the previous value.", x -> {
            for (int i = 0; i < 12; i++) {
                due(FIRST[i], x.set(i, GREATEST[i]));
                due(GREATEST[i], x.set(i, LEAST[i]));
                due(LEAST[i], x.set(i, LEAST[i]));
            }
            x.undo();
            due(0, x.set(11, 7));
            thrown(x, y -> y.set(11, 1001));
            due(7, x.set(11, 8));
        });
        test("Throws `IndexOutOfBoundsException` if index is out of range", x ->
            refuse(OUT, IDLE_ONE, y -> y.set(-1, 1), y -> y.set(12, 1), y -> y.set(MIN, 1),
                y -> y.set(MAX, 1), y -> y.set(-1, MAX), y -> y.set(12, MIN), y -> y.set(12, -1)));
        test("Throws `IllegalArgumentException` if value is out of range", x -> {
            for (int i = 0; i < 12; i++) {
                int index = i;
                refuse(ARGUMENT, i % 2 == 0 ? IDLE_ONE : RAMPING, y -> y.set(index, LEAST[index] - 1),
                    y -> y.set(index, GREATEST[index] + 1), y -> y.set(index, MIN),
                    y -> y.set(index, MAX));
            }
        });
    }

    private void setMode() {
        test("`channel`: 0 or 1", x -> {
            due(0, x.setMode(0, 1, 10, 2));
            due(0, x.setMode(1, 2, 10, 2));
            due(1, x.setMode(0, 0, 10, 2));
            due(2, x.setMode(1, 0, 10, 2));
            refuse(OUT, y -> { }, y -> y.setMode(-1, 1, 10, 2), y -> y.setMode(2, 1, 10, 2));
        });
        test("`mode`: 0 to 2", x -> {
            x.setPoints(209, 409);
            int[] temperatures = {209, 204, 220};
            int[] humidities = {409, 404, 410};
            x.set(5, 0);
            for (int mode = 0; mode <= 2; mode++) {
                x.setMode(0, mode, 50, 0);
                x.setMode(1, mode, 50, 0);
                due(temperatures[mode], x.valueIn(0, 1));
                due(humidities[mode], x.valueIn(1, 1));
            }
            refuse(ARGUMENT, y -> { }, y -> y.setMode(0, -1, 50, 2), y -> y.setMode(0, 3, 50, 2));
        });
        test("`gain`: 1 to 100", x -> {
            x.setPoints(300, 500);
            x.setMode(0, 1, 1, 0);
            due(201, x.valueIn(0, 1));
            x.setPoints(205, 500);
            x.setMode(0, 1, 100, 0);
            due(205, x.valueIn(0, 1));
            refuse(ARGUMENT, y -> { }, y -> y.setMode(0, 1, 0, 2), y -> y.setMode(0, 1, 101, 2));
        });
        test("`band`: 0 to 50", x -> {
            x.setPoints(201, 400);
            x.setMode(0, 0, 50, 0);
            due(201, x.valueIn(0, 1));
            x.setMode(0, 0, 50, 50);
            x.setPoints(250, 400);
            due(200, x.valueIn(0, 1));
            x.setPoints(251, 400);
            due(220, x.valueIn(0, 1));
            refuse(ARGUMENT, y -> { }, y -> y.setMode(0, 0, 50, -1), y -> y.setMode(0, 0, 50, 51));
        });
        test("Undoable.", x -> {
            undoable(IDLE_ONE, y -> y.setMode(0, 0, 100, 50));
            undoable(IDLE_ONE, y -> y.setMode(1, 0, 1, 0));
            undoable(RAMPING, y -> y.setMode(0, 2, 1, 0));
            undoable(y -> { }, y -> y.setMode(1, 0, 50, 2));
        });
        test("Undoable.", x -> {
            // a gain and a band come back with their mode
            x.setMode(0, 1, 40, 0);
            x.setMode(0, 1, 80, 0);
            x.undo();
            points(x, 210, 400);
            dueValues(x, TEMPERATURE, 204);
            x.setMode(0, 0, 40, 3);
            x.setMode(0, 0, 40, 9);
            x.undo();
            points(x, 208, 400);
            dueValues(x, TEMPERATURE, 208);
        });
    }

    private void setModeRefused() {
        test("Returns the previous mode.", x -> {
            for (int channel = 0; channel <= 1; channel++) {
                due(0, x.setMode(channel, 2, 50, 2));
                due(2, x.setMode(channel, 2, 50, 2));
                due(2, x.setMode(channel, 1, 50, 2));
                int c = channel;
                thrown(x, y -> y.setMode(c, 0, 101, 2));
                due(1, x.setMode(channel, 0, 50, 2));
            }
        });
        test("Throws `IndexOutOfBoundsException` if there is no such channel", x ->
            refuse(OUT, IDLE_ONE, y -> y.setMode(-1, 0, 50, 2), y -> y.setMode(2, 0, 50, 2),
                y -> y.setMode(MIN, 0, 50, 2), y -> y.setMode(MAX, 0, 50, 2),
                y -> y.setMode(2, 3, 50, 2), y -> y.setMode(-1, 0, 0, 2),
                y -> y.setMode(2, 0, 50, 51)));
        test("Throws `IllegalArgumentException` if another argument is out of range", x -> {
            for (int channel = 0; channel <= 1; channel++) {
                int c = channel;
                refuse(ARGUMENT, channel == 0 ? IDLE_ONE : RAMPING, y -> y.setMode(c, -1, 50, 2),
                    y -> y.setMode(c, 3, 50, 2), y -> y.setMode(c, MIN, 50, 2),
                    y -> y.setMode(c, MAX, 50, 2), y -> y.setMode(c, 0, 0, 2),
                    y -> y.setMode(c, 0, 101, 2), y -> y.setMode(c, 0, MIN, 2),
                    y -> y.setMode(c, 0, MAX, 2), y -> y.setMode(c, 0, 50, -1),
                    y -> y.setMode(c, 0, 50, 51), y -> y.setMode(c, 0, 50, MIN),
                    y -> y.setMode(c, 0, 50, MAX));
            }
        });
    }

    private void setPoints() {
        test("`temperature`: -400 to 1800", x -> {
            x.setPoints(-400, 400);
            dueValues(x, TEMPERATURE_POINT, -400, HUMIDITY_POINT, 400);
            x.setPoints(1800, 400);
            dueValues(x, TEMPERATURE_POINT, 1800, HUMIDITY_POINT, 400);
            refuse(ARGUMENT, y -> { }, y -> y.setPoints(-401, 400), y -> y.setPoints(1801, 400));
        });
        test("`humidity`: 0 to 1000", x -> {
            x.setPoints(200, 0);
            dueValues(x, TEMPERATURE_POINT, 200, HUMIDITY_POINT, 0);
            x.setPoints(200, 1000);
            dueValues(x, TEMPERATURE_POINT, 200, HUMIDITY_POINT, 1000);
            refuse(ARGUMENT, y -> { }, y -> y.setPoints(200, -1), y -> y.setPoints(200, 1001));
        });
        test("Undoable.", x -> {
            undoable(IDLE_ONE, y -> y.setPoints(-400, 1000));
            undoable(DONE_ONE, y -> y.setPoints(1800, 0));
            undoable(y -> { }, y -> y.setPoints(200, 400));
        });
        test("Returns the previous set point of the temperature.", x -> {
            due(200, x.setPoints(-400, 500));
            due(-400, x.setPoints(1800, 600));
            due(1800, x.setPoints(1800, 700));
            thrown(x, y -> y.setPoints(0, 1001));
            due(1800, x.setPoints(0, 700));
        });
        test("Throws `IllegalArgumentException` if an argument is out of range", x -> {
            refuse(ARGUMENT, IDLE_ONE, y -> y.setPoints(-401, 0), y -> y.setPoints(1801, 1000),
                y -> y.setPoints(MIN, 0), y -> y.setPoints(MAX, 0), y -> y.setPoints(0, -1),
                y -> y.setPoints(0, 1001), y -> y.setPoints(0, MIN), y -> y.setPoints(0, MAX));
            // it is listed first
            refuse(ARGUMENT, RAMPING, y -> y.setPoints(-401, 0), y -> y.setPoints(0, 1001));
        });
        test("Throws `IllegalStateException` if a program runs", x -> {
            refuse(STATE, RAMPING, y -> y.setPoints(200, 400));
            refuse(STATE, SOAKING, y -> y.setPoints(200, 400));
            refuse(STATE, HELD_ONE, y -> y.setPoints(200, 400));
            due(200, make(DONE_ONE).setPoints(210, 400));
            due(1000, make(FAILED_ONE).setPoints(210, 400));
            due(231, make(IDLE_ONE).setPoints(210, 400));
        });
    }

    private void door() {
        test("`open`: whether it is open then", x -> {
            x.door(true);
            dueValues(x, DOOR, 1);
            x.door(false);
            dueValues(x, DOOR, 0);
            x.door(true);
            dueValues(x, DOOR, 1);
        });
        test("Undoable.", x -> {
            undoable(y -> { }, y -> y.door(true));
            undoable(OPEN_ONE, y -> y.door(false));
            undoable(IDLE_ONE, y -> y.door(true));
            undoable(FAILED_ONE, y -> y.door(true));
            undoable(BLOCKED_ONE, y -> y.door(true));
        });
        test("Returns the time.", x -> {
            due(0, x.door(true));
            x.pass(7);
            due(7, x.door(false));
            due(20000, make(AT_LATEST_TIME).door(true));
        });
        test("Throws `IllegalStateException` if it is so already", x -> {
            refuse(STATE, y -> { }, y -> y.door(false));
            refuse(STATE, OPEN_ONE, y -> y.door(true));
            refuse(STATE, RAMPING, y -> y.door(false));
            refuse(STATE, DONE_ONE, y -> y.door(false));
            refuse(STATE, y -> {
                y.door(true);
                y.undo();
            }, y -> y.door(false));
        });
    }

    private void pass() {
        test("`minutes`: 1 to 500", x -> {
            x.pass(1);
            dueValues(x, TIME, 1);
            x.pass(500);
            dueValues(x, TIME, 501);
            refuse(ARGUMENT, y -> { }, y -> y.pass(0), y -> y.pass(501));
        });
        test("Undoable.", x -> {
            undoable(IDLE_ONE, y -> y.pass(1));
            undoable(RAMPING, y -> y.pass(500));
            undoable(SOAKING, y -> y.pass(1));
            undoable(HELD_ONE, y -> y.pass(3));
            undoable(OPEN_ONE, y -> y.pass(2));
            undoable(BLOCKED_ONE, y -> y.pass(1));
        });
        test("Undoable.", x -> {
            // one state for all its minutes
            x.pass(500);
            dueValues(x, SAVED, 1);
            due(0, x.undo());
            dueValues(x, TIME, 0);
            due(NONE, x.history(0));
        });
        test("Returns the temperature then.", x -> {
            x.set(4, 0);
            x.setPoints(250, 400);
            due(220, x.pass(1));
            due(250, x.pass(2));
            due(250, x.pass(500));
        });
        test("Throws `IllegalArgumentException` if minutes is out of range", x -> {
            refuse(ARGUMENT, IDLE_ONE, y -> y.pass(0), y -> y.pass(-1), y -> y.pass(501),
                y -> y.pass(MIN), y -> y.pass(MAX));
            // it is listed first
            refuse(ARGUMENT, AT_LATEST_TIME, y -> y.pass(0), y -> y.pass(501), y -> y.pass(MAX));
        });
        test("Throws `IllegalStateException` if the time would become greater than 20000", x -> {
            for (int i = 0; i < 39; i++) {
                x.pass(500);
            }
            x.pass(1);
            due(19501, x.value(TIME));
            dueThrow(STATE, x, y -> y.pass(500));
            x.pass(499);
            dueValues(x, TIME, 20000);
            refuse(STATE, AT_LATEST_TIME, y -> y.pass(1), y -> y.pass(500));
        });
        test("Throws `IllegalStateException` if the time would become greater than 20000", x -> {
            Use almost = y -> {
                AT_LATEST_TIME.of(y);
                y.undo();
                y.pass(499);
            };
            refuse(STATE, almost, y -> y.pass(2), y -> y.pass(500));
            ClimateChamber z = make(almost);
            z.pass(1);
            dueValues(z, TIME, 20000);
        });
    }
}
