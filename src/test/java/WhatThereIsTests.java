/** A test for each sentence of the promises 14 to 22 that names a boundary case. */
public final class WhatThereIsTests extends Sentences {

    private WhatThereIsTests() {
        super("what there is");
    }

    public static void main(String[] args) {
        new WhatThereIsTests().run();
    }

    private void run() {
        section("Promise 14: value");
        value();
        valueOfAProgram();
        valueOfTheMachines();
        endOfSection("Returns the value.");
        section("Promise 15: setting");
        setting();
        endOfSection();
        section("Promise 16: segment");
        segment();
        endOfSection();
        section("Promise 17: result");
        result();
        endOfSection();
        section("Promise 18: audit");
        audit();
        endOfSection();
        section("Promise 19: auditCode");
        auditCode();
        endOfSection();
        section("Promise 20: history");
        history();
        endOfSection();
        section("Promise 21: spread");
        spread();
        endOfSection();
        section("Promise 22: mean");
        mean();
        endOfSection();
        finish();
    }

    private void value() {
        test("`what`: 0: time", x -> {
            dueValues(x, TIME, 0);
            x.pass(500);
            dueValues(x, TIME, 500);
            dueValues(make(AT_LATEST_TIME), TIME, 20000);
        });
        test("24: length of the text", x -> {
            dueValues(x, LENGTH, 0);
            type(x, "t1");
            dueValues(x, LENGTH, 2);
            type(x, "x".repeat(88));
            dueValues(x, LENGTH, 90);
            x.clear();
            dueValues(x, LENGTH, 0);
        });
        test("1: temperature; 2: humidity; 3: set point of the temperature; 4: that of the humidity", x -> {
            x.setPoints(219, 409);
            dueValues(x, 1, 200, 2, 400, 3, 219, 4, 409);
            x.pass(1);
            // coupled -5, error 14, humidifier 10
            dueValues(x, 1, 219, 2, 405, 3, 219, 4, 409);
        });
        test("6: 1 if the program is held, 0 otherwise", x -> {
            dueValues(x, HELD, 0);
            program(x, 200, 400, 1, 1);
            dueValues(x, HELD, 0);
            x.hold(true);
            dueValues(x, HELD, 1);
            x.stop();
            dueValues(x, HELD, 0);
        });
        test("7: 1 if the door is open, 0 otherwise", x -> {
            dueValues(x, DOOR, 0);
            x.door(true);
            dueValues(x, DOOR, 1);
            x.door(false);
            dueValues(x, DOOR, 0);
        });
        test("21: number of segments; 22: cycles; 23: number of saved states", x -> {
            dueValues(x, SEGMENTS, 0, CYCLES, 1, SAVED, 0);
            x.addSegment(200, 400, 1, 1);
            dueValues(x, SEGMENTS, 1, CYCLES, 1, SAVED, 1);
            x.setCycles(20);
            dueValues(x, SEGMENTS, 1, CYCLES, 20, SAVED, 2);
            dueValues(make(FULL), SEGMENTS, 12, SAVED, 6);
        });
        test("Throws `IllegalArgumentException` if what is not 0 to 24", x ->
            refuse(ARGUMENT, RAMPING, y -> y.value(-1), y -> y.value(25), y -> y.value(MIN),
                y -> y.value(MAX)));
    }

    private void valueOfAProgram() {
        test("5: phase", x -> {
            dueValues(x, PHASE, IDLE);
            program(x, 200, 400, 1, 1);
            dueValues(x, PHASE, RAMP);
            x.pass(1);
            dueValues(x, PHASE, SOAK);
            x.pass(1);
            dueValues(x, PHASE, DONE);
            dueValues(make(FAILED_ONE), PHASE, FAILED);
            dueValues(make(IDLE_ONE), PHASE, IDLE);
        });
        test("8: number of the segment, NONE if no program runs", x -> {
            dueValues(x, SEGMENT, NONE);
            program(x, 200, 400, 0, 1, 200, 400, 0, 1);
            dueValues(x, SEGMENT, 0);
            x.pass(1);
            dueValues(x, SEGMENT, 1);
            x.pass(1);
            dueValues(x, SEGMENT, NONE);
            dueValues(make(HELD_ONE), SEGMENT, 0);
            dueValues(make(FAILED_ONE), SEGMENT, NONE);
            dueValues(make(IDLE_ONE), SEGMENT, NONE);
        });
        test("9: cycle, NONE if no program runs", x -> {
            dueValues(x, CYCLE, NONE);
            x.setCycles(2);
            program(x, 200, 400, 0, 1);
            dueValues(x, CYCLE, 1);
            x.pass(1);
            dueValues(x, CYCLE, 2);
            x.pass(1);
            dueValues(x, CYCLE, NONE);
            dueValues(make(HELD_ONE), CYCLE, 3);
            dueValues(make(FAILED_ONE), CYCLE, NONE);
            dueValues(make(IDLE_ONE), CYCLE, NONE);
        });
        test("(10 to 12: of the segment that began last, 0 before any)", x -> {
            dueValues(x, RAMP_CLOCK, 0, SOAK_CLOCK, 0, PAUSED, 0);
            x.addSegment(240, 400, 1, 2);
            dueValues(x, RAMP_CLOCK, 0, SOAK_CLOCK, 0, PAUSED, 0);
            x.start();
            dueValues(x, RAMP_CLOCK, 0, SOAK_CLOCK, 0, PAUSED, 0);
            // 220, 239, and 240 again
            x.pass(3);
            dueValues(x, RAMP_CLOCK, 1, SOAK_CLOCK, 2, PAUSED, 0, PHASE, DONE);
            x.pass(1);
            x.removeSegment(0);
            dueValues(x, RAMP_CLOCK, 1, SOAK_CLOCK, 2, PAUSED, 0);
            x.addSegment(1000, 400, 0, 1);
            x.start();
            dueValues(x, RAMP_CLOCK, 0, SOAK_CLOCK, 0, PAUSED, 0);
            x.pass(2);
            x.stop();
            dueValues(x, RAMP_CLOCK, 0, SOAK_CLOCK, 0, PAUSED, 2);
        });
    }

    private void valueOfTheMachines() {
        test("13: minutes of the heater; 14: of the cooler; 15: of the humidifier; 16: of the dryer", x -> {
            x.set(4, 0);
            x.set(5, 0);
            x.set(8, 0);
            x.setPoints(280, 400);
            x.pass(9);
            dueValues(x, 13, 4, 14, 0, 15, 0, 16, 0);
            x.setPoints(250, 450);
            x.pass(9);
            dueValues(x, 13, 4, 14, 2, 15, 5, 16, 0);
            x.setPoints(250, 440);
            x.pass(9);
            dueValues(x, 13, 4, 14, 2, 15, 5, 16, 1);
        });
        test("17: blocked minutes; 18: heater rest; 19: cooler rest; 20: energy", x -> {
            x.set(4, 0);
            x.set(5, 0);
            dueValues(x, 17, 0, 18, 1000, 19, 1000, 20, 0);
            points(x, 220, 400);
            dueValues(x, 17, 0, 18, 0, 19, 1000, 20, 20);
            x.setPoints(205, 400);
            x.pass(2);
            dueValues(x, 17, 2, 18, 2, 19, 1000, 20, 20);
            x.pass(3);
            dueValues(x, 17, 3, 18, 5, 19, 1, 20, 35);
        });
    }

    private void setting() {
        test("`index`: 0 to 11", x -> {
            due(20, x.setting(0));
            due(60, x.setting(11));
            refuse(OUT, y -> { }, y -> y.setting(-1), y -> y.setting(12));
        });
        test("Returns the value.", x -> {
            int[] first = {20, 15, 10, 10, 2, 3, 5, 20, 3, 200, 400, 60};
            for (int i = 0; i < 12; i++) {
                due(first[i], x.setting(i));
                x.set(i, 11 + i);
            }
            for (int i = 0; i < 12; i++) {
                due(11 + i, x.setting(i));
            }
            x.set(9, -200);
            due(-200, x.setting(9));
        });
        test("Throws `IndexOutOfBoundsException` if index is out of range", x ->
            refuse(OUT, IDLE_ONE, y -> y.setting(-1), y -> y.setting(12), y -> y.setting(MIN),
                y -> y.setting(MAX)));
    }

    private void segment() {
        test("`segment`: number of a segment", x -> {
            FULL.of(x);
            due(200, x.segment(0, 0));
            due(211, x.segment(11, 0));
            refuse(OUT, FULL, y -> y.segment(-1, 0), y -> y.segment(12, 0));
        });
        test("`property`: 0: target temperature; 1: target humidity; 2: ramp minutes; 3: soak minutes", x -> {
            x.addSegment(-400, 1000, 0, 500);
            int[] properties = {-400, 1000, 0, 500};
            for (int property = 0; property < 4; property++) {
                due(properties[property], x.segment(0, property));
            }
            refuse(ARGUMENT, IDLE_ONE, y -> y.segment(0, -1), y -> y.segment(0, 4));
        });
        test("Returns the property.", x -> {
            x.addSegment(1, 2, 3, 4);
            x.addSegment(1800, 0, 500, 0);
            int[] properties = {1, 2, 3, 4, 1800, 0, 500, 0};
            for (int i = 0; i < 8; i++) {
                due(properties[i], x.segment(i / 4, i % 4));
            }
            // while the program runs too
            due(270, make(RAMPING).segment(1, 0));
        });
        test("Throws `IndexOutOfBoundsException` if there is no such segment", x -> {
            refuse(OUT, y -> { }, y -> y.segment(0, 0), y -> y.segment(-1, 0));
            refuse(OUT, IDLE_ONE, y -> y.segment(2, 0), y -> y.segment(-1, 3), y -> y.segment(MIN, 0),
                y -> y.segment(MAX, 0), y -> y.segment(1 << 30, 0));
            // it is listed first
            refuse(OUT, IDLE_ONE, y -> y.segment(2, 4), y -> y.segment(-1, -1));
            refuse(OUT, y -> {
                FULL.of(y);
                y.removeSegment(0);
            }, y -> y.segment(11, 0));
        });
        test("Throws `IllegalArgumentException` if property is not 0 to 3", x ->
            refuse(ARGUMENT, IDLE_ONE, y -> y.segment(0, -1), y -> y.segment(0, 4),
                y -> y.segment(1, MIN), y -> y.segment(1, MAX)));
    }

    private void result() {
        Use two = x -> program(x, 200, 400, 0, 1, 240, 400, 0, 2, 200, 400, 9, 0);
        test("`index`: 0 for the latest result, 1 for the one before it, and so on", x -> {
            two.of(x);
            x.pass(4);
            dueResult(x, 0, 1, 1, 3, 1);
            dueResult(x, 1, 0, 1, 1, 0);
            refuse(ARGUMENT, IDLE_ONE, y -> y.result(-1, 0));
        });
        test("`index`: 0 for the latest result, 1 for the one before it, and so on", x -> {
            x.setCycles(20);
            program(x, 200, 400, 0, 1);
            x.pass(20);
            for (int i = 0; i < 16; i++) {
                dueResult(x, i, 0, 20 - i, 1, 0);
            }
        });
        test("`property`: 0: number of the segment; 1: cycle; 2: minutes; 3: paused minutes", x -> {
            x.setCycles(2);
            two.of(x);
            x.pass(4);
            due(1, x.result(0, 0));
            due(1, x.result(0, 1));
            due(3, x.result(0, 2));
            due(1, x.result(0, 3));
            refuse(ARGUMENT, IDLE_ONE, y -> y.result(0, -1), y -> y.result(0, 4));
        });
        test("NONE if not so many results are kept.", x -> {
            dueResult(x, 0, NONE, NONE, NONE, NONE);
            dueResult(x, MAX, NONE, NONE, NONE, NONE);
            two.of(x);
            dueResult(x, 0, NONE, NONE, NONE, NONE);
            x.pass(1);
            dueResult(x, 0, 0, 1, 1, 0);
            dueResult(x, 1, NONE, NONE, NONE, NONE);
            x.undo();
            dueResult(x, 0, NONE, NONE, NONE, NONE);
        });
        test("NONE if not so many results are kept.", x -> {
            x.setCycles(20);
            program(x, 200, 400, 0, 1);
            x.pass(20);
            dueResult(x, 15, 0, 5, 1, 0);
            dueResult(x, 16, NONE, NONE, NONE, NONE);
            dueResult(x, 17, NONE);
            dueResult(x, MAX, NONE);
        });
        test("Throws `IllegalArgumentException` if index is negative, or property is not 0 to 3", x ->
            refuse(ARGUMENT, IDLE_ONE, y -> y.result(-1, 0), y -> y.result(MIN, 3),
                y -> y.result(-1, 4)));
        test("property is not 0 to 3", x -> {
            refuse(ARGUMENT, IDLE_ONE, y -> y.result(0, -1), y -> y.result(0, 4),
                y -> y.result(0, MIN), y -> y.result(0, MAX));
            // where no result is kept too
            refuse(ARGUMENT, y -> { }, y -> y.result(0, -1), y -> y.result(0, 4),
                y -> y.result(MAX, 4));
        });
    }

    private void audit() {
        test("`index`: 0 for the latest entry, 1 for the one before it, and so on", x -> {
            x.door(true);
            dueEntry(x, 0, 7, 0, 0);
            x.pass(3);
            x.door(false);
            dueEntry(x, 0, 8, 0, 3);
            dueEntry(x, 1, 7, 0, 0);
            refuse(ARGUMENT, IDLE_ONE, y -> y.audit(-1, 0));
        });
        test("`index`: 0 for the latest entry, 1 for the one before it, and so on", x -> {
            for (int i = 0; i < 30; i++) {
                x.door(i % 2 == 0);
                x.pass(1);
            }
            for (int i = 0; i < 24; i++) {
                dueEntry(x, i, i % 2 == 0 ? 8 : 7, 0, 29 - i);
            }
        });
        test("`property`: 0: kind; 1: number; 2: time", x -> {
            x.pass(9);
            program(x, 200, 400, 1, 1, 200, 400, 1, 1);
            due(1, x.audit(1, 0));
            due(2, x.audit(1, 1));
            due(9, x.audit(1, 2));
            refuse(ARGUMENT, IDLE_ONE, y -> y.audit(0, -1), y -> y.audit(0, 3));
        });
        test("NONE if not so many entries are kept.", x -> {
            dueEntry(x, 0, NONE, NONE, NONE);
            dueEntry(x, MAX, NONE, NONE, NONE);
            x.door(true);
            dueEntry(x, 0, 7, 0, 0);
            dueEntry(x, 1, NONE, NONE, NONE);
            x.undo();
            dueEntry(x, 0, NONE, NONE, NONE);
        });
        test("NONE if not so many entries are kept.", x -> {
            for (int i = 0; i < 30; i++) {
                x.door(i % 2 == 0);
            }
            dueEntry(x, 23, 7, 0, 0);
            dueEntry(x, 24, NONE, NONE, NONE);
            dueEntry(x, 25, NONE);
            dueEntry(x, MAX, NONE);
        });
        test("Throws `IllegalArgumentException` if index is negative, or property is not 0 to 2", x ->
            refuse(ARGUMENT, IDLE_ONE, y -> y.audit(-1, 0), y -> y.audit(MIN, 2),
                y -> y.audit(-1, 3)));
        test("property is not 0 to 2", x -> {
            refuse(ARGUMENT, IDLE_ONE, y -> y.audit(0, -1), y -> y.audit(0, 3), y -> y.audit(0, MIN),
                y -> y.audit(0, MAX));
            // where no entry is kept too
            refuse(ARGUMENT, y -> { }, y -> y.audit(0, -1), y -> y.audit(0, 3), y -> y.audit(MAX, 3));
        });
    }

    private void auditCode() {
        test("Returns the audit code.", x -> {
            due(17, x.auditCode());
            x.pass(5);
            due(17, x.auditCode());
            x.door(true);
            due(7527, x.auditCode());
            x.undo();
            due(17, x.auditCode());
            thrown(x, y -> y.door(false));
            due(17, x.auditCode());
        });
        test("Returns the audit code.", x -> {
            // the 24 entries that are kept say no more of the first one, but the code does
            ClimateChamber other = new ClimateChamber();
            program(other, 200, 400, 1, 1);
            other.stop();
            for (int i = 0; i < 24; i++) {
                x.door(i % 2 == 0);
                other.door(i % 2 == 0);
            }
            dueEntry(x, 23, 7, 0, 0);
            dueEntry(other, 23, 7, 0, 0);
            // 31^24 (31 (31 (31 * 17 + 1001) + 2000) + 6000) - 31^24 * 17
            long more = 31L * (31L * (31L * 17 + 1001) + 2000) + 6000 - 17;
            for (int i = 0; i < 24; i++) {
                more *= 31;
            }
            due(more, other.auditCode() - x.auditCode());
        });
    }

    /** Temperatures 201, 202, .. in the minutes 1, 2, .. */
    private static void rise(ClimateChamber x) {
        x.set(0, 1);
        x.set(4, 0);
        x.setPoints(1800, 400);
    }

    private void history() {
        test("`back`: 0 for the latest minute, 1 for the one before it, and so on", x -> {
            rise(x);
            x.pass(60);
            for (int back = 0; back < 60; back++) {
                due(260 - back, x.history(back));
            }
            refuse(ARGUMENT, IDLE_ONE, y -> y.history(-1));
        });
        test("Returns the temperature; NONE if not so many are kept.", x -> {
            due(NONE, x.history(0));
            due(NONE, x.history(MAX));
            rise(x);
            x.pass(1);
            due(201, x.history(0));
            due(NONE, x.history(1));
            x.pass(58);
            due(201, x.history(58));
            due(NONE, x.history(59));
            x.undo();
            x.undo();
            due(NONE, x.history(0));
        });
        test("Returns the temperature; NONE if not so many are kept.", x -> {
            rise(x);
            x.pass(61);
            due(261, x.history(0));
            due(202, x.history(59));
            due(NONE, x.history(60));
            due(NONE, x.history(61));
            due(NONE, x.history(MAX));
        });
        test("Throws `IllegalArgumentException` if back is negative", x -> {
            refuse(ARGUMENT, IDLE_ONE, y -> y.history(-1), y -> y.history(MIN));
            refuse(ARGUMENT, y -> { }, y -> y.history(-1));
        });
    }

    private void spread() {
        test("`minutes`: 1 to 60", x -> {
            rise(x);
            x.pass(100);
            due(0, x.spread(1));
            due(1, x.spread(2));
            due(58, x.spread(59));
            due(59, x.spread(60));
            refuse(ARGUMENT, y -> { }, y -> y.spread(0), y -> y.spread(61));
        });
        test("Returns the greatest minus the smallest one of the latest temperatures of the history, as"
            + " many as minutes", x -> {
            // 220, 205, 190, 197: the greatest and the smallest are neither first nor last
            ups(x);
            due(0, x.spread(1));
            due(7, x.spread(2));
            due(15, x.spread(3));
            due(30, x.spread(4));
        });
        test("or of all if fewer are kept", x -> {
            rise(x);
            x.pass(3);
            due(2, x.spread(3));
            due(2, x.spread(4));
            due(2, x.spread(60));
        });
        test("0 if none is kept", x -> {
            due(0, x.spread(1));
            due(0, x.spread(60));
            x.pass(1);
            x.undo();
            due(0, x.spread(60));
        });
        test("the latest temperatures of the history", x -> {
            ups(x);
            x.pass(56);
            due(30, x.spread(60));
            due(15, x.spread(59));
            // the 61st minute drops the 220
            x.pass(1);
            due(15, x.spread(60));
        });
        test("Throws `IllegalArgumentException` if minutes is out of range", x -> {
            refuse(ARGUMENT, IDLE_ONE, y -> y.spread(0), y -> y.spread(-1), y -> y.spread(61),
                y -> y.spread(MIN), y -> y.spread(MAX));
            refuse(ARGUMENT, y -> { }, y -> y.spread(0), y -> y.spread(61));
        });
    }

    /** Temperatures 220, 205, 190, 197, and 197 from then on. */
    private static void ups(ClimateChamber x) {
        x.set(4, 0);
        x.set(8, 0);
        points(x, 220, 400);
        x.setPoints(190, 400);
        x.pass(2);
        points(x, 197, 400);
    }

    private void mean() {
        test("`minutes`: 1 to 60", x -> {
            rise(x);
            x.pass(100);
            dueDouble(300.0, x.mean(1));
            dueDouble(299.5, x.mean(2));
            // 242 to 300, and 241 to 300
            dueDouble(271.0, x.mean(59));
            dueDouble(270.5, x.mean(60));
            refuse(ARGUMENT, y -> { }, y -> y.mean(0), y -> y.mean(61));
        });
        test("Returns the sum of the latest temperatures of the history, as many as minutes", x -> {
            ups(x);
            dueDouble(197.0, x.mean(1));
            dueDouble(193.5, x.mean(2));
            dueDouble(592.0 / 3.0, x.mean(3));
            dueDouble(203.0, x.mean(4));
        });
        test("or of all if fewer are kept", x -> {
            rise(x);
            x.pass(2);
            dueDouble(201.5, x.mean(2));
            dueDouble(201.5, x.mean(3));
            dueDouble(201.5, x.mean(60));
        });
        test("converted to double, divided by their number, converted to double", x -> {
            x.set(1, 50);
            x.set(4, 0);
            x.setPoints(-400, 400);
            x.pass(6);
            // 0, -50, -100
            dueDouble(-50.0, x.mean(3));
            dueDouble(-75.0, x.mean(2));
            x.set(1, 1);
            x.pass(1);
            // -101, -100, -50 and 0 before them
            dueDouble(-251.0 / 3.0, x.mean(3));
            dueDouble(-251.0 / 4.0, x.mean(4));
        });
        test("0.0 if none is kept", x -> {
            dueDouble(0.0, x.mean(1));
            dueDouble(0.0, x.mean(60));
            x.pass(1);
            x.undo();
            dueDouble(0.0, x.mean(60));
        });
        test("the latest temperatures of the history", x -> {
            ups(x);
            x.pass(56);
            dueDouble((615.0 + 57 * 197) / 60.0, x.mean(60));
            // the 61st minute drops the 220
            x.pass(1);
            dueDouble((395.0 + 58 * 197) / 60.0, x.mean(60));
        });
        test("Throws `IllegalArgumentException` if minutes is out of range", x -> {
            refuse(ARGUMENT, IDLE_ONE, y -> y.mean(0), y -> y.mean(-1), y -> y.mean(61),
                y -> y.mean(MIN), y -> y.mean(MAX));
            refuse(ARGUMENT, y -> { }, y -> y.mean(0), y -> y.mean(61));
        });
    }
}
