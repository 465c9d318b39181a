/** A test for each sentence of the promises 7 to 13 that names a boundary case. */
public final class ProgramsTests extends Sentences {

    private ProgramsTests() {
        super("programs");
    }

    public static void main(String[] args) {
        new ProgramsTests().run();
    }

    private void run() {
        section("Promise 7: addSegment");
        addSegment();
        addSegmentRefused();
        endOfSection();
        section("Promise 8: removeSegment");
        removeSegment();
        endOfSection();
        section("Promise 9: setCycles");
        setCycles();
        endOfSection();
        section("Promise 10: start");
        start();
        endOfSection();
        section("Promise 11: stop");
        stop();
        endOfSection();
        section("Promise 12: hold");
        hold();
        endOfSection();
        section("Promise 13: undo");
        undo();
        endOfSection();
        finish();
    }

    private void dueSegment(ClimateChamber x, int number, int... properties) {
        for (int i = 0; i < properties.length; i++) {
            due(properties[i], x.segment(number, i));
        }
    }

    private void addSegment() {
        test("Adds a segment behind the others.", x -> {
            x.addSegment(1, 2, 3, 4);
            x.addSegment(5, 6, 7, 8);
            dueSegment(x, 0, 1, 2, 3, 4);
            dueSegment(x, 1, 5, 6, 7, 8);
        });
        test("`temperature`: -400 to 1800", x -> {
            x.addSegment(-400, 400, 1, 1);
            x.addSegment(1800, 400, 1, 1);
            dueSegment(x, 0, -400, 400, 1, 1);
            dueSegment(x, 1, 1800, 400, 1, 1);
            refuse(ARGUMENT, y -> { }, y -> y.addSegment(-401, 400, 1, 1),
                y -> y.addSegment(1801, 400, 1, 1));
        });
        test("`humidity`: 0 to 1000", x -> {
            x.addSegment(200, 0, 1, 1);
            x.addSegment(200, 1000, 1, 1);
            dueSegment(x, 0, 200, 0, 1, 1);
            dueSegment(x, 1, 200, 1000, 1, 1);
            refuse(ARGUMENT, y -> { }, y -> y.addSegment(200, -1, 1, 1),
                y -> y.addSegment(200, 1001, 1, 1));
        });
        test("`ramp`: ramp minutes, 0 to 500", x -> {
            x.addSegment(200, 400, 0, 1);
            x.addSegment(200, 400, 500, 1);
            dueSegment(x, 0, 200, 400, 0, 1);
            dueSegment(x, 1, 200, 400, 500, 1);
            refuse(ARGUMENT, y -> { }, y -> y.addSegment(200, 400, -1, 1),
                y -> y.addSegment(200, 400, 501, 1));
        });
        test("`soak`: soak minutes, 0 to 500", x -> {
            x.addSegment(200, 400, 1, 0);
            x.addSegment(200, 400, 1, 500);
            dueSegment(x, 0, 200, 400, 1, 0);
            dueSegment(x, 1, 200, 400, 1, 500);
            refuse(ARGUMENT, y -> { }, y -> y.addSegment(200, 400, 1, -1),
                y -> y.addSegment(200, 400, 1, 501));
        });
        test("Undoable.", x -> {
            undoable(y -> { }, y -> y.addSegment(200, 400, 1, 1));
            undoable(IDLE_ONE, y -> y.addSegment(1800, 1000, 500, 500));
            undoable(y -> {
                FULL.of(y);
                y.removeSegment(11);
            }, y -> y.addSegment(-400, 0, 0, 1));
        });
        test("Returns the number of the segment.", x -> {
            for (int i = 0; i < 12; i++) {
                due(i, x.addSegment(200, 400, 1, 1));
            }
            x.removeSegment(0);
            due(11, x.addSegment(200, 400, 1, 1));
            due(1, make(DONE_ONE).addSegment(200, 400, 1, 1));
        });
    }

    private void addSegmentRefused() {
        test("Throws `IllegalArgumentException` if an argument is out of range, or ramp and soak are"
            + " both 0", x -> {
            refuse(ARGUMENT, IDLE_ONE, y -> y.addSegment(-401, 0, 1, 1),
                y -> y.addSegment(1801, 0, 1, 1), y -> y.addSegment(MIN, 0, 1, 1),
                y -> y.addSegment(MAX, 0, 1, 1), y -> y.addSegment(0, -1, 1, 1),
                y -> y.addSegment(0, 1001, 1, 1), y -> y.addSegment(0, MIN, 1, 1),
                y -> y.addSegment(0, MAX, 1, 1), y -> y.addSegment(0, 0, -1, 1),
                y -> y.addSegment(0, 0, 501, 1), y -> y.addSegment(0, 0, MIN, 1),
                y -> y.addSegment(0, 0, MAX, 1), y -> y.addSegment(0, 0, 1, -1),
                y -> y.addSegment(0, 0, 1, 501), y -> y.addSegment(0, 0, 1, MIN),
                y -> y.addSegment(0, 0, 1, MAX), y -> y.addSegment(0, 0, MAX, MAX),
                y -> y.addSegment(0, 0, -1, 2), y -> y.addSegment(0, 0, 2, -1));
        });
        test("ramp and soak are both 0", x -> {
            refuse(ARGUMENT, IDLE_ONE, y -> y.addSegment(0, 0, 0, 0));
            due(0, x.addSegment(0, 0, 1, 0));
            due(1, x.addSegment(0, 0, 0, 1));
            // it is listed first
            refuse(ARGUMENT, RAMPING, y -> y.addSegment(0, 0, 0, 0), y -> y.addSegment(1801, 0, 1, 1));
            refuse(ARGUMENT, FULL, y -> y.addSegment(0, 0, 0, 0), y -> y.addSegment(0, 0, 1, 501));
        });
        test("Throws `IllegalStateException` if a program runs, or there are 12 segments", x -> {
            refuse(STATE, RAMPING, y -> y.addSegment(200, 400, 1, 1));
            refuse(STATE, SOAKING, y -> y.addSegment(200, 400, 1, 1));
            refuse(STATE, HELD_ONE, y -> y.addSegment(200, 400, 1, 1));
            due(2, make(IDLE_ONE).addSegment(200, 400, 1, 1));
            due(1, make(FAILED_ONE).addSegment(200, 400, 1, 1));
        });
        test("or there are 12 segments", x -> {
            refuse(STATE, FULL, y -> y.addSegment(200, 400, 1, 1));
            FULL.of(x);
            x.removeSegment(11);
            due(11, x.addSegment(200, 400, 1, 1));
            due(12, x.value(SEGMENTS));
        });
    }

    private void removeSegment() {
        test("the numbers of those behind it become smaller by 1", x -> {
            FULL.of(x);
            x.removeSegment(5);
            for (int i = 0; i < 11; i++) {
                due(i < 5 ? 200 + i : 201 + i, x.segment(i, 0));
            }
            x.removeSegment(0);
            due(201, x.segment(0, 0));
            due(211, x.segment(9, 0));
            x.removeSegment(9);
            due(201, x.segment(0, 0));
            due(210, x.segment(8, 0));
        });
        test("the numbers of those behind it become smaller by 1", x -> {
            x.addSegment(1, 2, 3, 4);
            x.addSegment(5, 6, 7, 8);
            x.removeSegment(0);
            dueSegment(x, 0, 5, 6, 7, 8);
        });
        test("`segment`: number of a segment", x -> {
            FULL.of(x);
            due(11, x.removeSegment(11));
            due(10, x.removeSegment(0));
            refuse(OUT, FULL, y -> y.removeSegment(-1), y -> y.removeSegment(12));
        });
        test("Undoable.", x -> {
            undoable(FULL, y -> y.removeSegment(0));
            undoable(FULL, y -> y.removeSegment(11));
            undoable(DONE_ONE, y -> y.removeSegment(0));
            undoable(IDLE_ONE, y -> y.removeSegment(1));
        });
        test("Returns the number of segments that remain.", x -> {
            FULL.of(x);
            for (int i = 11; i >= 0; i--) {
                due(i, x.removeSegment(0));
                dueValues(x, SEGMENTS, i);
            }
        });
        test("Throws `IndexOutOfBoundsException` if there is no such segment", x -> {
            refuse(OUT, y -> { }, y -> y.removeSegment(0), y -> y.removeSegment(-1));
            refuse(OUT, IDLE_ONE, y -> y.removeSegment(2), y -> y.removeSegment(-1),
                y -> y.removeSegment(MIN), y -> y.removeSegment(MAX));
            // it is listed first
            refuse(OUT, RAMPING, y -> y.removeSegment(2), y -> y.removeSegment(-1));
        });
        test("Throws `IllegalStateException` if a program runs", x -> {
            refuse(STATE, RAMPING, y -> y.removeSegment(0), y -> y.removeSegment(1));
            refuse(STATE, SOAKING, y -> y.removeSegment(1));
            refuse(STATE, HELD_ONE, y -> y.removeSegment(1));
            due(1, make(IDLE_ONE).removeSegment(1));
            due(0, make(DONE_ONE).removeSegment(0));
            due(0, make(FAILED_ONE).removeSegment(0));
        });
    }

    private void setCycles() {
        test("`cycles`: 1 to 20", x -> {
            x.setCycles(20);
            dueValues(x, CYCLES, 20);
            x.setCycles(1);
            dueValues(x, CYCLES, 1);
            refuse(ARGUMENT, y -> { }, y -> y.setCycles(0), y -> y.setCycles(21));
        });
        test("`cycles`: 1 to 20", x -> {
            x.setCycles(20);
            program(x, 200, 400, 0, 1);
            due(20, x.doneIn());
            x.stop();
            x.setCycles(1);
            x.start();
            due(1, x.doneIn());
        });
        test("Undoable.", x -> {
            undoable(y -> { }, y -> y.setCycles(1));
            undoable(IDLE_ONE, y -> y.setCycles(20));
        });
        test("Returns the previous number.", x -> {
            due(1, x.setCycles(20));
            due(20, x.setCycles(20));
            due(20, x.setCycles(2));
            thrown(x, y -> y.setCycles(21));
            due(2, x.setCycles(1));
        });
        test("Throws `IllegalArgumentException` if cycles is out of range", x -> {
            refuse(ARGUMENT, IDLE_ONE, y -> y.setCycles(0), y -> y.setCycles(21),
                y -> y.setCycles(-1), y -> y.setCycles(MIN), y -> y.setCycles(MAX));
            // it is listed first
            refuse(ARGUMENT, RAMPING, y -> y.setCycles(0), y -> y.setCycles(21));
        });
        test("Throws `IllegalStateException` if a program runs", x -> {
            refuse(STATE, RAMPING, y -> y.setCycles(2), y -> y.setCycles(1), y -> y.setCycles(20));
            refuse(STATE, SOAKING, y -> y.setCycles(2));
            refuse(STATE, HELD_ONE, y -> y.setCycles(2));
            due(4, make(IDLE_ONE).setCycles(3));
            due(1, make(DONE_ONE).setCycles(3));
            due(1, make(FAILED_ONE).setCycles(3));
        });
    }

    private void start() {
        test("segment 0 of cycle 1 begins", x -> {
            x.setCycles(2);
            program(x, 200, 400, 0, 1, 210, 400, 3, 1);
            dueValues(x, PHASE, SOAK, SEGMENT, 0, CYCLE, 1);
            x.pass(3);
            dueValues(x, PHASE, RAMP, SEGMENT, 1, RAMP_CLOCK, 2);
            x.stop();
            x.start();
            dueValues(x, PHASE, SOAK, SEGMENT, 0, CYCLE, 1, RAMP_CLOCK, 0);
        });
        test("Undoable.", x -> {
            undoable(IDLE_ONE, y -> y.start());
            undoable(DONE_ONE, y -> y.start());
            undoable(FAILED_ONE, y -> y.start());
        });
        test("Returns the number of segments.", x -> {
            due(1, make(DONE_ONE).start());
            due(2, make(IDLE_ONE).start());
            due(12, make(FULL).start());
        });
        test("Throws `IllegalStateException` if a program runs, or there are no segments", x -> {
            refuse(STATE, RAMPING, y -> y.start());
            refuse(STATE, SOAKING, y -> y.start());
            refuse(STATE, HELD_ONE, y -> y.start());
            due(1, make(FAILED_ONE).start());
        });
        test("or there are no segments", x -> {
            refuse(STATE, y -> { }, y -> y.start());
            refuse(STATE, y -> {
                DONE_ONE.of(y);
                y.removeSegment(0);
            }, y -> y.start());
            x.addSegment(200, 400, 0, 1);
            due(1, x.start());
        });
    }

    private void stop() {
        test("the phase becomes idle", x -> {
            Use[] running = {RAMPING, SOAKING, HELD_ONE};
            for (Use one : running) {
                ClimateChamber y = make(one);
                y.stop();
                dueValues(y, PHASE, IDLE, HELD, 0, SEGMENT, NONE, CYCLE, NONE);
            }
        });
        test("Undoable.", x -> {
            undoable(RAMPING, y -> y.stop());
            undoable(SOAKING, y -> y.stop());
            undoable(HELD_ONE, y -> y.stop());
        });
        test("Returns the number of the segment that ran.", x -> {
            x.pass(4);
            program(x, 200, 400, 0, 1, 200, 400, 0, 9);
            due(0, x.stop());
            x.start();
            x.pass(1);
            due(1, x.stop());
            ClimateChamber y = make(FULL);
            y.start();
            y.set(6, 100);
            y.pass(11);
            due(11, y.stop());
        });
        test("Throws `IllegalStateException` if no program runs", x -> {
            refuse(STATE, y -> { }, y -> y.stop());
            refuse(STATE, IDLE_ONE, y -> y.stop());
            refuse(STATE, DONE_ONE, y -> y.stop());
            refuse(STATE, FAILED_ONE, y -> y.stop());
        });
    }

    private void hold() {
        test("`held`: whether it is held then", x -> {
            program(x, 200, 400, 5, 5);
            x.hold(true);
            dueValues(x, HELD, 1);
            x.hold(false);
            dueValues(x, HELD, 0);
        });
        test("Undoable.", x -> {
            undoable(RAMPING, y -> y.hold(true));
            undoable(SOAKING, y -> y.hold(true));
            undoable(HELD_ONE, y -> y.hold(false));
        });
        test("Returns the phase.", x -> {
            program(x, 200, 400, 1, 5);
            due(RAMP, x.hold(true));
            due(RAMP, x.hold(false));
            x.pass(1);
            due(SOAK, x.hold(true));
            due(SOAK, x.hold(false));
        });
        test("Throws `IllegalStateException` if no program runs, or it is so already", x -> {
            Use[] none = {y -> { }, IDLE_ONE, DONE_ONE, FAILED_ONE};
            for (Use one : none) {
                refuse(STATE, one, y -> y.hold(true), y -> y.hold(false));
            }
        });
        test("or it is so already", x -> {
            refuse(STATE, RAMPING, y -> y.hold(false));
            refuse(STATE, SOAKING, y -> y.hold(false));
            refuse(STATE, HELD_ONE, y -> y.hold(true));
        });
    }

    private void undo() {
        test("Restores the state that was saved last, and removes it from the saved states.", x -> {
            x.set(0, 21);
            x.set(0, 22);
            x.undo();
            due(21, x.setting(0));
            x.set(0, 23);
            x.undo();
            due(21, x.setting(0));
            x.undo();
            due(20, x.setting(0));
        });
        test("Restores the state that was saved last, and removes it from the saved states.", x -> {
            // behind more than six saved states and some undone, the order is still theirs
            for (int i = 1; i <= 9; i++) {
                x.set(0, 20 + i);
            }
            x.undo();
            x.undo();
            x.undo();
            for (int i = 1; i <= 5; i++) {
                x.set(0, 40 + i);
            }
            int[] settings = {44, 43, 42, 41, 26, 25};
            for (int i = 0; i < 6; i++) {
                due(5 - i, x.undo());
                due(settings[i], x.setting(0));
            }
        });
        test("Returns the number of saved states that remain.", x -> {
            for (int saved = 1; saved <= 8; saved++) {
                x.setPoints(200 + saved, 400);
                dueValues(x, SAVED, Math.min(saved, 6));
            }
            for (int remain = 5; remain >= 0; remain--) {
                due(remain, x.undo());
                dueValues(x, SAVED, remain);
            }
        });
        test("Throws `IllegalStateException` if no state is saved", x -> {
            refuse(STATE, y -> { }, y -> y.undo());
            refuse(STATE, y -> type(y, "t1"), y -> y.undo());
            // the first of seven is dropped: behind six undone, no state is left
            refuse(STATE, y -> {
                for (int i = 1; i <= 7; i++) {
                    y.set(0, 20 + i);
                }
                for (int i = 1; i <= 6; i++) {
                    y.undo();
                }
            }, y -> y.undo());
            // a call that throws has saved none
            refuse(STATE, y -> thrown(y, z -> z.set(0, 0)), y -> y.undo());
        });
    }
}
