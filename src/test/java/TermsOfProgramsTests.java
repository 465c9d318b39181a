import java.math.BigInteger;

/**
 * A test for each sentence of the document's "Terms" that names a boundary case,
 * in the parts PROGRAMS and AUDIT TRAIL. What is due was reckoned by hand; the
 * reckoning stands beside it where it is not plain.
 */
public final class TermsOfProgramsTests extends Sentences {

    private TermsOfProgramsTests() {
        super("terms of programs");
    }

    public static void main(String[] args) {
        new TermsOfProgramsTests().run();
    }

    private void run() {
        section("Terms: PROGRAMS");
        programs();
        endOfAProgram();
        results();
        resultsOfMorePrograms();
        endOfSection();
        section("Terms: AUDIT TRAIL");
        auditTrail();
        auditEntries();
        endOfSection();
        finish();
    }

    private void programs() {
        test("A program has at most 12 segments, numbered from 0", x -> {
            for (int i = 0; i < 12; i++) {
                due(i, x.addSegment(100 + i, 400, 0, 1));
            }
            due(100, x.segment(0, 0));
            due(111, x.segment(11, 0));
            refuse(STATE, FULL, y -> y.addSegment(0, 0, 0, 1));
        });
        test("a number of cycles (1 to 20; 1 at first)", x -> {
            dueValues(x, CYCLES, 1);
            due(1, x.setCycles(20));
            due(20, x.setCycles(1));
            refuse(ARGUMENT, IDLE_ONE, y -> y.setCycles(0), y -> y.setCycles(21));
        });
        test("A segment has a target temperature (-400 to 1800)", x -> {
            due(0, x.addSegment(-400, 400, 0, 1));
            due(1, x.addSegment(1800, 400, 0, 1));
            refuse(ARGUMENT, IDLE_ONE, y -> y.addSegment(-401, 400, 0, 1),
                y -> y.addSegment(1801, 400, 0, 1));
        });
        test("a target humidity (0 to 1000)", x -> {
            due(0, x.addSegment(200, 0, 0, 1));
            due(1, x.addSegment(200, 1000, 0, 1));
            refuse(ARGUMENT, IDLE_ONE, y -> y.addSegment(200, -1, 0, 1),
                y -> y.addSegment(200, 1001, 0, 1));
        });
        test("ramp minutes (0 to 500)", x -> {
            due(0, x.addSegment(200, 400, 0, 1));
            due(1, x.addSegment(200, 400, 500, 1));
            refuse(ARGUMENT, IDLE_ONE, y -> y.addSegment(200, 400, -1, 1),
                y -> y.addSegment(200, 400, 501, 1));
        });
        test("soak minutes (0 to 500)", x -> {
            due(0, x.addSegment(200, 400, 1, 0));
            due(1, x.addSegment(200, 400, 1, 500));
            refuse(ARGUMENT, IDLE_ONE, y -> y.addSegment(200, 400, 1, -1),
                y -> y.addSegment(200, 400, 1, 501));
        });
        test("which are not both 0", x -> {
            due(0, x.addSegment(200, 400, 1, 0));
            due(1, x.addSegment(200, 400, 0, 1));
            refuse(ARGUMENT, IDLE_ONE, y -> y.addSegment(200, 400, 0, 0),
                y -> y.addSegment(200, 400, -1, 1), y -> y.addSegment(200, 400, 1, -1));
        });
        test("its start values are the temperature and the humidity at this moment", x -> {
            // not the set points
            x.setPoints(1000, 1000);
            program(x, 300, 500, 2, 0, 200, 400, 2, 0);
            x.pass(1);
            dueValues(x, TEMPERATURE_POINT, 250, HUMIDITY_POINT, 450, TEMPERATURE, 220, HUMIDITY, 404);
            x.pass(1);
            // nor the values at which the program began, nor those before the minute
            dueValues(x, SEGMENT, 1, TEMPERATURE_POINT, 300, HUMIDITY_POINT, 500, TEMPERATURE, 240,
                HUMIDITY, 408);
            x.pass(1);
            dueValues(x, TEMPERATURE_POINT, 220, HUMIDITY_POINT, 404);
        });
        test("its ramp clock, its soak clock and its paused minutes become 0", x -> {
            program(x, 200, 400, 1, 1, 240, 400, 0, 1, 240, 400, 0, 2);
            x.pass(2);
            dueValues(x, SEGMENT, 1, RAMP_CLOCK, 0, SOAK_CLOCK, 0, PAUSED, 0);
            x.pass(2);
            dueValues(x, SEGMENT, 2, RAMP_CLOCK, 0, SOAK_CLOCK, 0, PAUSED, 0);
            x.pass(1);
            x.stop();
            dueValues(x, SOAK_CLOCK, 1);
            x.start();
            dueValues(x, SEGMENT, 0, RAMP_CLOCK, 0, SOAK_CLOCK, 0, PAUSED, 0);
        });
        test("the next cycle begins with segment 0", x -> {
            // a program that is started anew begins with cycle 1 again
            x.setCycles(3);
            program(x, 200, 400, 0, 1, 200, 400, 0, 1);
            x.pass(3);
            dueValues(x, SEGMENT, 1, CYCLE, 2);
            x.stop();
            x.start();
            dueValues(x, SEGMENT, 0, CYCLE, 1);
            due(6, x.doneIn());
        });
        test("it begins with the ramp, or with the soak if the ramp minutes are 0", x -> {
            program(x, 200, 400, 1, 0, 200, 400, 0, 1, 200, 400, 1, 1);
            dueValues(x, PHASE, RAMP);
            x.pass(1);
            dueValues(x, PHASE, SOAK, SEGMENT, 1);
            x.pass(1);
            dueValues(x, PHASE, RAMP, SEGMENT, 2);
        });
        test("the next one begins; behind the last one, the next cycle begins with segment 0, or the"
            + " program is done if all cycles have been run", x -> {
            x.setCycles(2);
            program(x, 200, 400, 0, 1, 200, 400, 0, 1);
            dueValues(x, SEGMENT, 0, CYCLE, 1);
            x.pass(1);
            dueValues(x, SEGMENT, 1, CYCLE, 1);
            x.pass(1);
            dueValues(x, SEGMENT, 0, CYCLE, 2);
            x.pass(1);
            dueValues(x, SEGMENT, 1, CYCLE, 2);
            x.pass(1);
            dueValues(x, SEGMENT, NONE, CYCLE, NONE, PHASE, DONE);
        });
        test("the program is done if all cycles have been run", x -> {
            x.setCycles(20);
            program(x, 200, 400, 0, 1);
            x.pass(19);
            dueValues(x, SEGMENT, 0, CYCLE, 20, PHASE, SOAK);
            x.pass(1);
            dueValues(x, SEGMENT, NONE, PHASE, DONE);
        });
        test("the program is done if all cycles have been run", x -> {
            program(x, 200, 400, 0, 1);
            x.pass(1);
            dueValues(x, SEGMENT, NONE, PHASE, DONE);
        });
    }

    private void endOfAProgram() {
        test("The phase is 0 (idle), 1 (ramp), 2 (soak), 3 (done) or 4 (failed); the program runs in the"
            + " phases 1 and 2.", x -> {
            Use[] running = {RAMPING, SOAKING, HELD_ONE};
            int[] phases = {RAMP, SOAK, RAMP};
            for (int i = 0; i < running.length; i++) {
                dueValues(make(running[i]), PHASE, phases[i]);
                refuse(STATE, running[i], y -> y.start(), y -> y.setPoints(200, 400),
                    y -> y.addSegment(200, 400, 1, 1), y -> y.removeSegment(0), y -> y.setCycles(1));
            }
            Use[] others = {y -> { }, DONE_ONE, FAILED_ONE};
            int[] otherPhases = {IDLE, DONE, FAILED};
            for (int i = 0; i < others.length; i++) {
                dueValues(make(others[i]), PHASE, otherPhases[i], SEGMENT, NONE, CYCLE, NONE);
                refuse(STATE, others[i], y -> y.stop(), y -> y.hold(true), y -> y.hold(false),
                    y -> y.doneIn());
                due(1, make(others[i]).setCycles(2));
            }
        });
        test("When a program starts, fails, is stopped or is done, it is not held then.", x -> {
            program(x, 200, 400, 0, 2);
            dueValues(x, HELD, 0);
            x.hold(true);
            dueValues(x, HELD, 1);
            x.stop();
            dueValues(x, HELD, 0);
            x.start();
            dueValues(x, HELD, 0);
            x.hold(true);
            x.hold(false);
            x.pass(2);
            dueValues(x, HELD, 0, PHASE, DONE);
            dueValues(make(FAILED_ONE), HELD, 0, PHASE, FAILED);
        });
        test("Behind a program, the set points stay as they are.", x -> {
            program(x, 203, 403, 0, 1);
            x.pass(1);
            x.pass(1);
            dueValues(x, PHASE, DONE, TEMPERATURE_POINT, 203, HUMIDITY_POINT, 403);
            ClimateChamber failed = make(FAILED_ONE);
            failed.pass(2);
            dueValues(failed, PHASE, FAILED, TEMPERATURE_POINT, 1000, HUMIDITY_POINT, 400);
            ClimateChamber stopped = new ClimateChamber();
            program(stopped, 210, 410, 2, 1);
            stopped.pass(1);
            stopped.stop();
            stopped.pass(2);
            dueValues(stopped, PHASE, IDLE, TEMPERATURE_POINT, 205, HUMIDITY_POINT, 405);
        });
    }

    private void results() {
        test("A result is kept of each complete segment", x -> {
            program(x, 200, 400, 0, 1, 200, 400, 0, 2);
            dueResult(x, 0, NONE);
            x.pass(1);
            dueResult(x, 0, 0, 1, 1, 0);
            x.pass(1);
            dueResult(x, 0, 0, 1, 1, 0);
            x.stop();
            dueResult(x, 0, 0, 1, 1, 0);
            dueResult(x, 1, NONE);
            due(NONE, make(FAILED_ONE).result(0, 0));
        });
        test("its cycle (from 1)", x -> {
            x.setCycles(2);
            program(x, 200, 400, 0, 1);
            x.pass(1);
            dueResult(x, 0, 0, 1, 1, 0);
            x.pass(1);
            dueResult(x, 0, 0, 2, 1, 0);
        });
        test("its minutes (from its beginning to the end of the minute in which it is complete, minutes"
            + " in which it was held included)", x -> {
            x.pass(3);
            program(x, 200, 400, 0, 1, 200, 400, 2, 1, 200, 400, 1, 0);
            x.pass(1);
            dueResult(x, 0, 0, 1, 1, 0);
            x.pass(1);
            x.hold(true);
            x.pass(4);
            x.hold(false);
            x.pass(2);
            dueResult(x, 0, 1, 1, 7, 0);
            x.pass(1);
            dueResult(x, 0, 2, 1, 1, 0);
        });
        test("and its paused minutes", x -> {
            program(x, 240, 400, 0, 2, 240, 400, 0, 1);
            x.pass(3);
            dueResult(x, 0, 0, 1, 3, 1);
            x.pass(1);
            dueResult(x, 0, 1, 1, 1, 0);
        });
        test("The latest 16 results are kept.", x -> {
            x.setCycles(20);
            program(x, 200, 400, 0, 1);
            x.pass(15);
            dueResult(x, 14, 0, 1, 1, 0);
            dueResult(x, 15, NONE, NONE, NONE, NONE);
            x.pass(1);
            dueResult(x, 15, 0, 1, 1, 0);
            dueResult(x, 16, NONE, NONE, NONE, NONE);
            x.pass(1);
            dueResult(x, 0, 0, 17, 1, 0);
            dueResult(x, 15, 0, 2, 1, 0);
            dueResult(x, 16, NONE, NONE, NONE, NONE);
        });
    }

    private void resultsOfMorePrograms() {
        test("The latest 16 results are kept.", x -> {
            // behind a program that is started anew, stopped or fails, too
            program(x, 200, 400, 0, 1, 200, 400, 0, 2);
            x.pass(2);
            x.stop();
            dueResult(x, 0, 0, 1, 1, 0);
            x.start();
            dueResult(x, 0, 0, 1, 1, 0);
            x.pass(3);
            dueResult(x, 0, 1, 1, 2, 0);
            dueResult(x, 1, 0, 1, 1, 0);
            dueResult(x, 2, 0, 1, 1, 0);
            dueResult(x, 3, NONE, NONE, NONE, NONE);
            x.removeSegment(1);
            x.addSegment(1000, 400, 0, 1);
            x.set(11, 0);
            x.start();
            x.pass(2);
            dueValues(x, PHASE, FAILED);
            dueResult(x, 0, 0, 1, 1, 0);
            dueResult(x, 1, 1, 1, 2, 0);
            dueResult(x, 3, 0, 1, 1, 0);
            dueResult(x, 4, NONE, NONE, NONE, NONE);
        });
    }

    private void auditTrail() {
        test("the time at which it is written (in a minute: the time before step 8)", x -> {
            x.door(true);
            dueEntry(x, 0, 7, 0, 0);
            x.door(false);
            x.pass(5);
            program(x, 200, 400, 0, 1);
            dueEntry(x, 0, 2, 0, 5);
            x.pass(1);
            dueEntry(x, 0, 4, 1, 5);
            dueEntry(x, 1, 3, 0, 5);
            x.door(true);
            dueEntry(x, 0, 7, 0, 6);
        });
        test("The latest 24 entries are kept.", x -> {
            due(NONE, x.audit(0, 0));
            for (int i = 0; i < 23; i++) {
                x.pass(1);
                x.door(i % 2 == 0);
            }
            dueEntry(x, 22, 7, 0, 1);
            dueEntry(x, 23, NONE, NONE, NONE);
            x.pass(1);
            x.door(false);
            dueEntry(x, 23, 7, 0, 1);
            dueEntry(x, 24, NONE, NONE, NONE);
            x.pass(1);
            x.door(true);
            dueEntry(x, 0, 7, 0, 25);
            dueEntry(x, 23, 8, 0, 2);
            dueEntry(x, 24, NONE, NONE, NONE);
        });
        test("The audit code is 17 at first", x -> due(17, x.auditCode()));
        test("with each entry it becomes 31 * code + 1000 * kind + number", x -> {
            x.door(true);
            due(31 * 17 + 7000, x.auditCode());
            x.door(false);
            x.addSegment(200, 400, 1, 1);
            x.addSegment(200, 400, 1, 1);
            x.start();
            due(31 * (31 * (31 * (31 * 17 + 7000) + 8000) + 1002) + 2000, x.auditCode());
        });
        test("as a long number with overflow", x -> {
            BigInteger code = BigInteger.valueOf(17);
            for (int i = 0; i < 40; i++) {
                x.door(i % 2 == 0);
                code = code.multiply(BigInteger.valueOf(31))
                    .add(BigInteger.valueOf(i % 2 == 0 ? 7000 : 8000));
                due(code.longValue(), x.auditCode());
            }
        });
    }

    private void auditEntries() {
        test("1 the program starts (number: its segments)", x -> {
            program(x, 200, 400, 1, 1);
            dueEntry(x, 1, 1, 1, 0);
            dueEntry(x, 2, NONE);
            ClimateChamber full = make(FULL);
            full.start();
            dueEntry(full, 1, 1, 12, 0);
        });
        test("2 a segment begins (its number)", x -> {
            program(x, 200, 400, 0, 1, 200, 400, 0, 1);
            dueEntry(x, 0, 2, 0, 0);
            x.pass(1);
            dueEntry(x, 0, 2, 1, 0);
        });
        test("3 a segment is complete (its paused minutes)", x -> {
            program(x, 200, 400, 0, 1, 260, 400, 0, 1);
            x.pass(1);
            dueEntry(x, 1, 3, 0, 0);
            x.pass(3);
            dueEntry(x, 1, 3, 2, 3);
        });
        test("4 the program is done (its cycles)", x -> {
            x.setCycles(20);
            program(x, 200, 400, 0, 1);
            x.pass(19);
            dueEntry(x, 0, 2, 0, 18);
            x.pass(1);
            dueEntry(x, 0, 4, 20, 19);
        });
        test("5 it fails (number of the segment)", x -> {
            x.set(11, 0);
            x.pass(4);
            program(x, 200, 400, 0, 1, 1000, 400, 0, 1);
            x.pass(2);
            dueEntry(x, 0, 5, 1, 5);
            dueEntry(make(FAILED_ONE), 0, 5, 0, 0);
        });
        test("6 it is stopped (number of the segment)", x -> {
            x.pass(4);
            program(x, 200, 400, 0, 1, 200, 400, 0, 2);
            x.stop();
            dueEntry(x, 0, 6, 0, 4);
            x.start();
            x.pass(1);
            x.stop();
            dueEntry(x, 0, 6, 1, 5);
        });
        test("7 the door is opened (0)", x -> {
            x.door(true);
            dueEntry(x, 0, 7, 0, 0);
            dueEntry(x, 1, NONE);
        });
        test("8 the door is closed (0)", x -> {
            x.door(true);
            x.pass(2);
            x.door(false);
            dueEntry(x, 0, 8, 0, 2);
            dueEntry(x, 2, NONE);
        });
        test("9 the output is blocked in step 2, and neither heating nor cooling was blocked in the"
            + " minute before (1 if heating, 2 if cooling is blocked)", x -> {
            x.set(4, 0);
            points(x, 220, 400);
            dueEntry(x, 0, NONE);
            x.setPoints(205, 400);
            x.pass(3);
            dueEntry(x, 0, 9, 2, 1);
            dueEntry(x, 1, NONE);
            // cooled at last; then heating is blocked
            x.pass(1);
            dueEntry(x, 1, NONE);
            x.setPoints(225, 400);
            x.pass(2);
            dueEntry(x, 0, 9, 1, 5);
            dueEntry(x, 2, NONE);
        });
        test("neither heating nor cooling was blocked in the minute before", x -> {
            calm(x);
            points(x, 220, 400);
            points(x, 205, 400);
            // both have just been on: heating is blocked, then cooling, and then neither
            x.set(8, 30);
            points(x, 230, 400);
            dueEntry(x, 0, 9, 1, 2);
            points(x, 180, 400);
            dueValues(x, BLOCKED, 2);
            dueEntry(x, 0, 9, 1, 2);
            dueEntry(x, 1, NONE);
            points(x, 205, 400);
            points(x, 180, 400);
            dueValues(x, BLOCKED, 3);
            dueEntry(x, 0, 9, 2, 5);
            x.door(true);
            x.pass(1);
            x.door(false);
            x.pass(1);
            // the open door blocks nothing
            dueEntry(x, 0, 9, 2, 7);
            dueEntry(x, 3, 9, 2, 5);
            dueValues(x, BLOCKED, 4);
        });
    }
}
