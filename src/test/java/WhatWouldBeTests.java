/** A test for each sentence of the promises 23 to 26 that names a boundary case. */
public final class WhatWouldBeTests extends Sentences {

    private WhatWouldBeTests() {
        super("what would be");
    }

    public static void main(String[] args) {
        new WhatWouldBeTests().run();
    }

    private void run() {
        section("Promise 23: valueIn");
        valueIn();
        valueInAsItThenIs();
        endOfSection();
        section("Promise 24: doneIn");
        doneIn();
        doneInAsItThenIs();
        endOfSection();
        section("Promise 25: reachIn");
        reachIn();
        reachInAsIf();
        reachInAsItThenIs();
        endOfSection();
        section("Promise 26: bestMode");
        bestMode();
        bestModeOfSeveral();
        bestModeOfAProgram();
        bestModeAsItThenIs();
        endOfSection();
        finish();
    }

    /** What would be in these is compared with what then is in a twin. */
    private static final Use[] ALL = {IDLE_ONE, RAMPING, SOAKING, HELD_ONE, BLOCKED_ONE, OPEN_ONE,
        DONE_ONE, FAILED_ONE};

    /** One degree a minute, and nothing else that changes the temperature. */
    private static void slow(ClimateChamber x) {
        x.set(0, 1);
        x.set(1, 1);
        x.set(4, 0);
        x.setMode(0, 0, 50, 0);
    }

    private void valueIn() {
        test("`channel`: 0 or 1", x -> {
            x.setPoints(260, 430);
            due(220, x.valueIn(0, 1));
            due(404, x.valueIn(1, 1));
            refuse(OUT, y -> { }, y -> y.valueIn(-1, 1), y -> y.valueIn(2, 1));
        });
        test("`minutes`: 0 to 300", x -> {
            slow(x);
            x.setPoints(1800, 400);
            due(200, x.valueIn(0, 0));
            due(201, x.valueIn(0, 1));
            due(499, x.valueIn(0, 299));
            due(500, x.valueIn(0, 300));
            refuse(ARGUMENT, y -> { }, y -> y.valueIn(0, -1), y -> y.valueIn(0, 301));
        });
        test("Returns the temperature or the humidity after so many minutes.", x -> {
            due(200, x.valueIn(0, 0));
            due(400, x.valueIn(1, 0));
        });
        test("Returns the temperature or the humidity after so many minutes.", x -> {
            AT_LATEST_TIME.of(x);
            slow(x);
            x.setPoints(1800, 400);
            due(500, x.valueIn(0, 300));
            dueValues(x, TIME, 20000, TEMPERATURE, 200);
        });
        test("Throws `IndexOutOfBoundsException` if there is no such channel", x ->
            refuse(OUT, IDLE_ONE, y -> y.valueIn(-1, 0), y -> y.valueIn(2, 0), y -> y.valueIn(MIN, 0),
                y -> y.valueIn(MAX, 0), y -> y.valueIn(2, 301), y -> y.valueIn(-1, -1)));
        test("Throws `IllegalArgumentException` if minutes is out of range", x ->
            refuse(ARGUMENT, RAMPING, y -> y.valueIn(0, -1), y -> y.valueIn(1, -1),
                y -> y.valueIn(0, 301), y -> y.valueIn(1, 301), y -> y.valueIn(0, MIN),
                y -> y.valueIn(0, MAX)));
    }

    private void valueInAsItThenIs() {
        test("Returns the temperature or the humidity after so many minutes.", x -> {
            for (Use one : ALL) {
                for (int minutes : new int[] {1, 2, 7, 30, 300}) {
                    ClimateChamber y = make(one);
                    int temperature = y.valueIn(0, minutes);
                    int humidity = y.valueIn(1, minutes);
                    due(temperature, y.pass(minutes));
                    dueValues(y, TEMPERATURE, temperature, HUMIDITY, humidity);
                }
            }
        });
        test("Tells a value after some minutes.", x -> {
            // the cooler waits for three minutes
            x.set(4, 0);
            points(x, 220, 400);
            x.setPoints(205, 400);
            due(220, x.valueIn(0, 3));
            due(205, x.valueIn(0, 4));
            // the door stays open
            x.door(true);
            // of 20, 5 are lost
            due(215, x.valueIn(0, 1));
        });
        test("Tells a value after some minutes.", x -> {
            // the program goes on, from segment to segment
            x.set(4, 0);
            program(x, 220, 400, 0, 1, 200, 400, 4, 0, 260, 400, 0, 9);
            due(220, x.valueIn(0, 1));
            // the cooler waits until the ramp's last minute, and then the heater for three
            due(205, x.valueIn(0, 5));
            due(205, x.valueIn(0, 8));
            due(225, x.valueIn(0, 9));
            x.hold(true);
            due(200, x.valueIn(0, 300));
        });
    }

    private void doneIn() {
        test("Returns in how many minutes, 1 to 1000, the phase would become done", x -> {
            program(x, 200, 400, 0, 1);
            due(1, x.doneIn());
            x.stop();
            x.addSegment(200, 400, 2, 3);
            x.start();
            due(6, x.doneIn());
            x.pass(5);
            due(1, x.doneIn());
            x.pass(1);
            dueValues(x, PHASE, DONE);
        });
        test("NONE if it would not in 1000 minutes", x -> {
            program(x, 200, 400, 500, 500);
            due(1000, x.doneIn());
            x.stop();
            x.addSegment(200, 400, 0, 1);
            x.start();
            due(NONE, x.doneIn());
            x.pass(1);
            due(1000, x.doneIn());
        });
        test("also if the program is held", x -> {
            program(x, 200, 400, 0, 1);
            x.hold(true);
            due(NONE, x.doneIn());
            x.hold(false);
            due(1, x.doneIn());
        });
        test("or would fail", x -> {
            x.set(11, 0);
            program(x, 240, 400, 0, 1);
            due(NONE, x.doneIn());
            x.set(11, 1);
            // 220 is paused, 240 is complete
            due(2, x.doneIn());
            ClimateChamber y = new ClimateChamber();
            program(y, 1800, 400, 0, 1);
            due(NONE, y.doneIn());
            y.set(11, 1000);
            due(NONE, y.doneIn());
        });
        test("Throws `IllegalStateException` if no program runs", x -> {
            refuse(STATE, y -> { }, y -> y.doneIn());
            refuse(STATE, IDLE_ONE, y -> y.doneIn());
            refuse(STATE, DONE_ONE, y -> y.doneIn());
            refuse(STATE, FAILED_ONE, y -> y.doneIn());
        });
        test("in how many minutes", x -> {
            AT_LATEST_TIME.of(x);
            program(x, 200, 400, 500, 500);
            due(1000, x.doneIn());
            dueValues(x, TIME, 20000, PHASE, RAMP);
        });
    }

    private void doneInAsItThenIs() {
        test("Returns in how many minutes, 1 to 1000, the phase would become done", x -> {
            Use[] running = {RAMPING, SOAKING, HELD_ONE, BLOCKED_ONE, OPEN_ONE, DONE_ONE, FAILED_ONE};
            for (Use one : running) {
                ClimateChamber y = make(one);
                if (y.value(SEGMENT) == NONE) {
                    y.start();
                }
                int told = y.doneIn();
                int minutes = 0;
                while (minutes < 200 && y.value(PHASE) != DONE) {
                    y.pass(1);
                    minutes++;
                }
                due(told, y.value(PHASE) == DONE ? minutes : NONE);
            }
        });
        test("the phase would become done", x -> {
            // blocked for three minutes, which are paused ones
            x.set(4, 0);
            points(x, 220, 400);
            program(x, 205, 400, 0, 1);
            due(4, x.doneIn());
            // the door stays open: 500 comes in
            x.door(true);
            due(3, x.doneIn());
            x.set(9, 500);
            due(NONE, x.doneIn());
        });
    }

    private void reachIn() {
        test("`temperature`: -400 to 1800", x -> {
            x.set(4, 0);
            x.set(0, 50);
            x.set(1, 50);
            // 600 / 50 without the last 5, and 1600 / 50
            due(12, x.reachIn(-400));
            due(32, x.reachIn(1800));
            refuse(ARGUMENT, y -> { }, y -> y.reachIn(-401), y -> y.reachIn(1801));
        });
        test("Returns the smallest number of minutes, 0 to 500", x -> {
            slow(x);
            x.set(6, 0);
            due(0, x.reachIn(200));
            due(1, x.reachIn(201));
            due(1, x.reachIn(199));
            due(499, x.reachIn(699));
            due(500, x.reachIn(700));
            due(500, x.reachIn(-300));
        });
        test("NONE if there is none", x -> {
            slow(x);
            x.set(6, 0);
            due(NONE, x.reachIn(701));
            due(NONE, x.reachIn(-301));
            due(NONE, x.reachIn(1800));
            // within the band, nothing is done
            x.setMode(0, 0, 50, 2);
            due(0, x.reachIn(200));
            due(NONE, x.reachIn(202));
            due(NONE, x.reachIn(203));
        });
        test("the temperature would be within the temperature tolerance of it", x -> {
            slow(x);
            due(0, x.reachIn(205));
            due(1, x.reachIn(206));
            due(0, x.reachIn(195));
            due(1, x.reachIn(194));
            x.set(6, 100);
            due(0, x.reachIn(300));
            due(1, x.reachIn(301));
            due(0, x.reachIn(100));
            due(1, x.reachIn(99));
        });
        test("the smallest number of minutes", x -> {
            // 200, 210, 219, 227 and on, through what is asked for, without heating or cooling
            x.set(6, 0);
            x.set(4, 10);
            x.set(9, 300);
            x.setMode(0, 0, 50, 50);
            due(0, x.reachIn(200));
            due(1, x.reachIn(210));
            due(2, x.reachIn(219));
            due(NONE, x.reachIn(218));
        });
        test("Throws `IllegalArgumentException` if temperature is out of range", x -> {
            refuse(ARGUMENT, IDLE_ONE, y -> y.reachIn(-401), y -> y.reachIn(1801),
                y -> y.reachIn(MIN), y -> y.reachIn(MAX));
            refuse(ARGUMENT, RAMPING, y -> y.reachIn(-401), y -> y.reachIn(1801));
        });
    }

    private void reachInAsIf() {
        test("if no program ran", x -> {
            x.addSegment(300, 400, 0, 500);
            x.start();
            due(2, x.reachIn(240));
            x.hold(true);
            due(2, x.reachIn(240));
            dueValues(x, PHASE, SOAK, HELD, 1);
        });
        test("the door was closed", x -> {
            x.door(true);
            due(2, x.reachIn(240));
            // outside it is 500, but with the door closed 6 a minute come in
            x.set(9, 500);
            due(2, x.reachIn(250));
            dueValues(x, DOOR, 1);
        });
        test("and the set point was this temperature", x -> {
            x.setPoints(-400, 400);
            due(2, x.reachIn(240));
            dueValues(x, TEMPERATURE_POINT, -400);
        });
        test("Tells how long it would take to reach a temperature", x -> {
            x.set(4, 0);
            points(x, 220, 400);
            // the cooler waits for three minutes
            due(4, x.reachIn(210));
        });
        test("Tells how long it would take to reach a temperature", x -> {
            AT_LATEST_TIME.of(x);
            due(2, x.reachIn(240));
            dueValues(x, TIME, 20000, TEMPERATURE, 200);
        });
    }

    private void reachInAsItThenIs() {
        test("if no program ran, the door was closed, and the set point was this temperature", x -> {
            for (Use one : ALL) {
                for (int temperature : new int[] {180, 199, 216, 240, 700}) {
                    due(reached(make(one), temperature), make(one).reachIn(temperature));
                }
            }
        });
    }

    private static int reached(ClimateChamber y, int temperature) {
        if (y.value(SEGMENT) != NONE) {
            y.stop();
        }
        if (y.value(DOOR) == 1) {
            y.door(false);
        }
        y.setPoints(temperature, y.value(HUMIDITY_POINT));
        int tolerance = y.setting(6);
        for (int minutes = 0; minutes < 200; minutes++) {
            if (Math.abs(temperature - y.value(TEMPERATURE)) <= tolerance) {
                return minutes;
            }
            y.pass(1);
        }
        return NONE;
    }

    private void bestMode() {
        test("`minutes`: 1 to 200", x -> {
            x.set(4, 0);
            x.setMode(0, 0, 100, 2);
            x.setPoints(222, 400);
            // each comes to 220, and then mode 1 alone to 222
            due(0, x.bestMode(1));
            due(1, x.bestMode(2));
            due(1, x.bestMode(200));
            refuse(ARGUMENT, y -> { }, y -> y.bestMode(0), y -> y.bestMode(201));
        });
        test("taken at the end of each of the next minutes", x -> {
            // one a minute up to 399 in 199 minutes; in the 200th, only mode 1 goes on to 400
            x.set(0, 1);
            x.set(4, 0);
            x.setMode(0, 0, 100, 1);
            x.setPoints(400, 400);
            due(0, x.bestMode(199));
            due(1, x.bestMode(200));
        });
        test("with the present gain and band", x -> {
            x.set(4, 0);
            x.setPoints(204, 400);
            x.setMode(0, 2, 100, 5);
            due(1, x.bestMode(1));
            x.setMode(0, 2, 100, 3);
            due(0, x.bestMode(1));
            x.setMode(0, 2, 24, 5);
            // 4 * 24 / 100 is nothing
            due(0, x.bestMode(1));
            x.setMode(0, 2, 25, 5);
            due(1, x.bestMode(1));
        });
        test("Returns the mode, 0 to 2", x -> {
            x.set(4, 0);
            x.setPoints(210, 400);
            due(0, x.bestMode(1));
            x.setMode(0, 2, 100, 10);
            due(1, x.bestMode(1));
            ClimateChamber y = new ClimateChamber();
            y.set(4, 20);
            y.setPoints(250, 400);
            // mode 0 stays 10 below; mode 2 goes to and fro, from 240 to 252
            due(2, y.bestMode(200));
        });
        test("Throws `IllegalArgumentException` if minutes is out of range", x -> {
            refuse(ARGUMENT, IDLE_ONE, y -> y.bestMode(0), y -> y.bestMode(-1), y -> y.bestMode(201),
                y -> y.bestMode(MIN), y -> y.bestMode(MAX));
            refuse(ARGUMENT, RAMPING, y -> y.bestMode(0), y -> y.bestMode(201));
        });
    }

    private void bestModeOfSeveral() {
        test("the lowest one of several", x -> {
            // all three do nothing
            due(0, x.bestMode(1));
            due(0, x.bestMode(200));
            // all three heat with all the power
            x.setPoints(1800, 400);
            due(0, x.bestMode(1));
        });
        test("the lowest one of several", x -> {
            // 10 come in from outside: the modes come to 221 and 221, 212 and 220, 221 and 213
            x.set(0, 11);
            x.set(4, 10);
            x.set(8, 0);
            x.set(9, 300);
            x.setMode(0, 0, 20, 0);
            x.setPoints(214, 400);
            due(1, x.bestMode(2));
        });
        test("the lowest one of several", x -> {
            // modes 0 and 2 alike, mode 1 worse, whatever the mode is now
            x.set(4, 0);
            x.setPoints(1800, 400);
            x.setMode(0, 2, 1, 2);
            due(0, x.bestMode(20));
            x.setMode(0, 1, 1, 2);
            due(0, x.bestMode(20));
        });
        test("the absolute values of set point - temperature", x -> {
            // from above: the modes come to 196 and 201, 200 and 200, 196 and 203 for 204
            x.set(0, 10);
            x.set(9, 0);
            x.setMode(0, 0, 100, 5);
            x.setPoints(204, 400);
            due(1, x.bestMode(2));
        });
        test("would be least", x -> {
            AT_LATEST_TIME.of(x);
            x.setMode(0, 0, 100, 50);
            x.setPoints(250, 400);
            due(1, x.bestMode(200));
            dueValues(x, TIME, 20000, TEMPERATURE, 200);
        });
    }

    private void bestModeOfAProgram() {
        test("the sum of the absolute values of set point - temperature", x -> {
            // the set points go where the program takes them: 205, and then 260
            x.set(4, 0);
            x.setMode(0, 0, 20, 5);
            program(x, 205, 400, 0, 1, 260, 400, 0, 9);
            // 5 in the band, or 4 with a fifth of it
            due(1, x.bestMode(1));
            // 5 + 40, or 4 + 48
            due(0, x.bestMode(2));
            // held, they stay at 200, while 10 come in: 10 + 9, 10 + 17, or 10 + 4
            x.hold(true);
            x.set(9, 300);
            x.set(4, 10);
            due(2, x.bestMode(2));
        });
        test("the sum of the absolute values of set point - temperature", x -> {
            // the humidity's channel stays as it is: too slow for the soak to end
            x.set(4, 0);
            x.setMode(0, 0, 20, 5);
            x.setMode(1, 1, 1, 0);
            program(x, 205, 460, 0, 1, 260, 460, 0, 9);
            due(1, x.bestMode(9));
            // with 10 a minute it ends in the fourth
            x.setMode(1, 0, 1, 2);
            due(0, x.bestMode(9));
        });
        test("would be least", x -> {
            // with an open door no mode does anything
            x.set(4, 0);
            x.setMode(0, 0, 100, 50);
            x.setPoints(250, 400);
            due(1, x.bestMode(1));
            x.door(true);
            due(0, x.bestMode(1));
        });
    }

    private void bestModeAsItThenIs() {
        test("Returns the mode, 0 to 2, with which (with the present gain and band) the sum", x -> {
            for (Use one : ALL) {
                Use made = y -> {
                    one.of(y);
                    y.setMode(0, 1, 70, 3);
                };
                for (int minutes : new int[] {1, 2, 5, 20, 140}) {
                    due(best(made, minutes), make(made).bestMode(minutes));
                }
            }
        });
    }

    private static int best(Use made, int minutes) {
        int[] sums = new int[3];
        int best = 0;
        for (int mode = 0; mode < 3; mode++) {
            ClimateChamber y = make(made);
            y.setMode(0, mode, 70, 3);
            for (int i = 0; i < minutes; i++) {
                y.pass(1);
                sums[mode] += Math.abs(y.value(TEMPERATURE_POINT) - y.value(TEMPERATURE));
            }
            best = sums[mode] < sums[best] ? mode : best;
        }
        return best;
    }
}
