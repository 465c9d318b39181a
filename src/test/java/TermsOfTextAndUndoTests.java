/**
 * A test for each sentence of the document's "Terms" that names a boundary case,
 * in the parts TEXT and UNDO AND ERRORS. What is due was reckoned by hand; the
 * reckoning stands beside it where it is not plain.
 */
public final class TermsOfTextAndUndoTests extends Sentences {

    private TermsOfTextAndUndoTests() {
        super("terms of text and undo");
    }

    public static void main(String[] args) {
        new TermsOfTextAndUndoTests().run();
    }

    private void run() {
        section("What it is");
        use();
        endOfSection("A controller for a climate chamber.");
        section("Terms: TEXT");
        text();
        errorPosition();
        endOfSection();
        section("Terms: UNDO AND ERRORS");
        undo();
        refusals();
        questions();
        endOfSection(
            "Ahead of the calls `set`, `setMode`, `setPoints`, `door`, `pass` the interface says",
            "Ahead of the calls `addSegment`, `removeSegment`",
            "Ahead of the calls `value`, `setting`",
            "Ahead of the calls `append`, `clear`");
        finish();
    }

    private void text() {
        test("A buffer contains at most 90 characters.", x -> {
            for (int i = 1; i <= 90; i++) {
                due(i, x.append('t'));
            }
            due(90, x.value(LENGTH));
            refuse(STATE, y -> type(y, "t".repeat(90)), y -> y.append('t'));
        });
        test("A text consists of one or more segments", x -> {
            dueError(0, "");
            dueError(NONE, "t1h1r1s1;");
            dueError(NONE, "t1h1r1s1;t1h1r1s1;");
            dueError(NONE, "t1h1r1s1;".repeat(10));
        });
        test("\"t\", a temperature, \"h\", a humidity, \"r\", ramp minutes, \"s\", soak minutes, and"
            + " \";\"", x -> {
            dueError(0, "1h1r1s1;");
            dueError(2, "t1r1s1;");
            dueError(4, "t1h1s1;");
            dueError(6, "t1h1r1;");
            dueError(8, "t1h1r1s1");
            dueError(8, "t1h1r1s1t");
            dueError(1, "th1r1s1;");
            dueError(3, "t1hr1s1;");
            dueError(5, "t1h1rs1;");
            dueError(7, "t1h1r1s;");
            dueError(0, "h1t1r1s1;");
            dueError(0, "T1h1r1s1;");
            dueError(9, "t1h1r1s1;;");
        });
        test("A temperature is a number, with \"-\" before it or not; the others are numbers", x -> {
            dueError(NONE, "t-1h1r1s1;");
            dueError(NONE, "t-0h1r1s1;");
            dueError(2, "t--1h1r1s1;");
            dueError(1, "t+1h1r1s1;");
            dueError(2, "t-h1r1s1;");
            dueError(2, "t1-h1r1s1;");
            dueError(3, "t1h-1r1s1;");
            dueError(5, "t1h1r-1s1;");
            dueError(7, "t1h1r1s-1;");
        });
        test("a number consists of 1 to 4 digits", x -> {
            dueError(NONE, "t0h0r0s1;");
            dueError(NONE, "t1799h0999r0499s0499;");
            dueError(NONE, "t-0400h0000r0000s0001;");
            dueError(5, "t00001h1r1s1;");
            dueError(6, "t-00001h1r1s1;");
            dueError(7, "t1h00001r1s1;");
            dueError(9, "t1h1r00001s1;");
            dueError(11, "t1h1r1s00001;");
            // the signs beside "0" and "9"
            dueError(1, "t/h1r1s1;");
            dueError(1, "t:h1r1s1;");
            dueError(NONE, "t9h9r9s9;");
        });
        test("At most 12 segments are allowed.", x -> {
            // the shortest text of eleven has 99 characters: ten is the most that a buffer holds
            ClimateChamber y = make(z -> type(z, "t1h1r1s1;".repeat(10)));
            due(NONE, y.errorPosition());
            due(10, y.load());
        });
        test("There are no blanks.", x -> {
            dueError(0, " t1h1r1s1;");
            dueError(1, "t 1h1r1s1;");
            dueError(2, "t1 h1r1s1;");
            dueError(8, "t1h1r1s1 ;");
            dueError(9, "t1h1r1s1; ");
            dueError(9, "t1h1r1s1; t1h1r1s1;");
        });
    }

    private void errorPosition() {
        test("The error position is the index of the first character that is not allowed at its place", x -> {
            dueError(0, "xx");
            dueError(1, "txx");
            dueError(9, "t1h1r1s1;x1h1x");
            dueError(81, "t1h1r1s1;".repeat(9) + "u1h1r1s1;");
            dueError(89, "t1h1r1s1;".repeat(9) + "t1h1r1s1x");
        });
        test("or the length of the text if it ends too early", x -> {
            String text = "t1h1r1s1;";
            dueError(0, "");
            for (int length = 1; length < text.length(); length++) {
                dueError(length, text.substring(0, length));
                dueError(9 + length, text + text.substring(0, length));
            }
            dueError(2, "t-");
            dueError(90, "t1h1r1s1;".repeat(8) + "t-400h1000r500s500");
        });
        test("but the numbers of a segment are not in their ranges", x -> {
            dueError(NONE, "t1800h1000r500s500;");
            dueError(0, "t1801h1000r500s500;");
            dueError(0, "t1800h1001r500s500;");
            dueError(0, "t1800h1000r501s500;");
            dueError(0, "t1800h1000r500s501;");
            dueError(NONE, "t-400h0r0s1;");
            dueError(0, "t-401h0r0s1;");
            dueError(0, "t9999h9999r9999s9999;");
        });
        test("or both its ramp and soak minutes are 0", x -> {
            dueError(NONE, "t1h1r0s1;");
            dueError(NONE, "t1h1r1s0;");
            dueError(0, "t1h1r0s0;");
            dueError(0, "t1h1r0000s0000;");
        });
        test("it is the index of the \"t\" of the first such segment", x -> {
            dueError(9, "t1h1r1s1;t1h1r0s0;t1801h1r1s1;");
            dueError(18, "t1h1r1s1;t1h1r1s1;t1801h1r1s1;");
            dueError(81, "t1h1r1s1;".repeat(9) + "t1h1r0s0;");
        });
        test("if there is no such error, but the numbers", x -> {
            dueError(12, "t1801h1r1s1;x");
            dueError(20, "t1801h1r1s1;t1h1r1s1");
        });
    }

    private void use() {
        test("An object is used for at most 512 calls after it has been made", x -> {
            for (int i = 1; i <= 510; i++) {
                x.pass(1);
            }
            due(200, x.pass(1));
            due(511, x.value(TIME));
        });
    }

    private void undo() {
        test("Each successful call of a method that is marked as undoable saves the state from before"
            + " the call, even if the call changes nothing.", x -> {
            x.set(0, 20);
            dueValues(x, SAVED, 1);
            x.setMode(0, 0, 50, 2);
            dueValues(x, SAVED, 2);
            x.setPoints(200, 400);
            dueValues(x, SAVED, 3);
            x.setCycles(1);
            dueValues(x, SAVED, 4);
            due(3, x.undo());
            due(2, x.undo());
            due(1, x.undo());
            due(0, x.undo());
        });
        test("At most 6 states are saved; when one more is saved, the oldest one is dropped.", x -> {
            for (int i = 1; i <= 5; i++) {
                x.set(0, 20 + i);
                dueValues(x, SAVED, i);
            }
            x.set(0, 26);
            dueValues(x, SAVED, 6);
            x.set(0, 27);
            dueValues(x, SAVED, 6);
            for (int i = 1; i <= 6; i++) {
                due(6 - i, x.undo());
                due(27 - i, x.setting(0));
            }
            due(21, x.setting(0));
            refuse(STATE, y -> { }, y -> y.undo());
        });
        test("At most 6 states are saved; when one more is saved, the oldest one is dropped.", x -> {
            for (int i = 1; i <= 6; i++) {
                x.set(0, 20 + i);
            }
            for (int i = 0; i < 6; i++) {
                x.undo();
            }
            // with six saved and none dropped, the first state of all comes back
            due(20, x.setting(0));
            dueValues(x, SAVED, 0);
        });
        test("The state is everything but the buffer and the saved states.", x -> {
            type(x, "t1");
            x.set(0, 30);
            type(x, "h1");
            x.undo();
            dueValues(x, LENGTH, 4);
            due(4, x.errorPosition());
            x.set(0, 30);
            x.clear();
            x.undo();
            dueValues(x, LENGTH, 0);
        });
        test("The state is everything but the buffer and the saved states.", x -> {
            Use[] all = {IDLE_ONE, RAMPING, SOAKING, HELD_ONE, OPEN_ONE, BLOCKED_ONE, DONE_ONE,
                FAILED_ONE};
            for (Use one : all) {
                undoable(one, y -> y.pass(1));
                undoable(one, y -> y.pass(70));
                undoable(one, y -> y.set(6, 7));
                undoable(one, y -> y.door(y.value(DOOR) == 0));
            }
        });
        test("The state is everything but the buffer and the saved states.", x -> {
            // where a segment began, and from which values
            program(x, 240, 440, 4, 0, 300, 500, 2, 1);
            x.pass(1);
            x.pass(4);
            dueValues(x, SEGMENT, 1, RAMP_CLOCK, 1);
            x.undo();
            x.pass(1);
            dueValues(x, SEGMENT, 0, TEMPERATURE_POINT, 220, HUMIDITY_POINT, 420);
            x.pass(2);
            dueResult(x, 0, 0, 1, 4, 0);
        });
        test("The state is everything but the buffer and the saved states.", x -> {
            // whether the output was blocked in the minute before
            x.set(4, 0);
            points(x, 220, 400);
            points(x, 205, 400);
            dueEntry(x, 0, 9, 2, 1);
            points(x, 220, 400);
            x.undo();
            x.undo();
            x.pass(1);
            dueValues(x, BLOCKED, 2);
            dueEntry(x, 0, 9, 2, 1);
            x.undo();
            x.undo();
            dueEntry(x, 0, NONE);
            x.pass(1);
            dueValues(x, BLOCKED, 1);
            dueEntry(x, 0, 9, 2, 1);
        });
        test("The state is everything but the buffer and the saved states.", x -> {
            x.set(4, 0);
            x.set(8, 2);
            points(x, 220, 420);
            dueValues(x, HEATER, 1, HUMIDIFIER, 1, HEATER_REST, 0);
            // two minutes blocked, then one in which it cools
            x.setPoints(205, 300);
            x.pass(3);
            dueValues(x, BLOCKED, 2, COOLER, 1, DRYER, 3, HEATER_REST, 3, COOLER_REST, 0);
            x.undo();
            dueValues(x, BLOCKED, 0, COOLER, 0, DRYER, 0, HEATER_REST, 0, COOLER_REST, 1000, HEATER, 1,
                HUMIDIFIER, 1, ENERGY, 30);
            x.undo();
            x.undo();
            dueValues(x, HEATER, 0, HUMIDIFIER, 0, HEATER_REST, 1000, ENERGY, 0);
        });
        test("The state is everything but the buffer and the saved states.", x -> {
            // the full history, trail and results, of which the oldest ones were dropped
            x.set(0, 1);
            x.set(4, 0);
            x.set(6, 100);
            x.set(11, 1000);
            x.setCycles(20);
            program(x, 300, 400, 0, 1);
            x.pass(19);
            x.setMode(0, 0, 50, 0);
            x.pass(50);
            int oldest = x.history(59);
            dueResult(x, 15, 0, 5, 1, 0);
            dueEntry(x, 23, 3, 0, 8);
            x.pass(70);
            x.undo();
            due(oldest, x.history(59));
            due(NONE, x.history(60));
            dueValues(x, TIME, 69);
            x.start();
            x.pass(20);
            x.undo();
            x.undo();
            dueResult(x, 0, 0, 20, 1, 0);
            dueResult(x, 15, 0, 5, 1, 0);
            dueEntry(x, 0, 4, 20, 19);
            dueEntry(x, 23, 3, 0, 8);
            x.pass(1);
            due(oldest + 1, x.history(59));
        });
        test("The constants: `NONE = -10000`", x -> {
            due(-10000, ClimateChamber.NONE);
            dueValues(x, SEGMENT, -10000, CYCLE, -10000);
        });
    }

    private void refusals() {
        test("A call that throws an exception changes nothing.", x -> {
            Use[] all = {y -> { }, IDLE_ONE, DONE_ONE, FAILED_ONE};
            for (Use one : all) {
                refuse(STATE, one, y -> y.stop(), y -> y.hold(true), y -> y.hold(false));
                refuse(ARGUMENT, one, y -> y.load(), y -> y.pass(0), y -> y.setPoints(0, 1001),
                    y -> y.append(31), y -> y.addSegment(0, 0, 0, 0));
                refuse(OUT, one, y -> y.set(12, 1), y -> y.setMode(2, 0, 50, 2),
                    y -> y.removeSegment(12));
            }
        });
        test("If several exceptions apply, the one that is listed first is thrown.", x -> {
            refuse(OUT, RAMPING, y -> y.set(12, MAX), y -> y.setMode(2, 3, 0, 51),
                y -> y.removeSegment(2), y -> y.segment(2, 4), y -> y.valueIn(2, 301));
            refuse(ARGUMENT, RAMPING, y -> y.setPoints(1801, 0), y -> y.addSegment(0, 0, 0, 0),
                y -> y.setCycles(21), y -> y.load());
            refuse(ARGUMENT, AT_LATEST_TIME, y -> y.pass(0), y -> y.pass(501));
            refuse(ARGUMENT, y -> type(y, "t".repeat(90)), y -> y.append(127));
            refuse(ARGUMENT, FULL, y -> y.addSegment(0, 0, 0, 0));
        });
    }

    private void questions() {
        test("nothing changes, and the limit of time does not apply", x -> {
            Use[] all = {IDLE_ONE, RAMPING, SOAKING, HELD_ONE, BLOCKED_ONE, OPEN_ONE, FAILED_ONE};
            for (Use one : all) {
                changesNothing(one, y -> {
                    y.valueIn(0, 300);
                    y.valueIn(1, 1);
                });
                changesNothing(one, y -> y.reachIn(-100));
                changesNothing(one, y -> y.bestMode(200));
            }
            changesNothing(RAMPING, y -> y.doneIn());
            changesNothing(SOAKING, y -> y.doneIn());
            changesNothing(BLOCKED_ONE, y -> y.doneIn());
            changesNothing(OPEN_ONE, y -> y.doneIn());
        });
        test("nothing changes, and the limit of time does not apply", x -> {
            AT_LATEST_TIME.of(x);
            dueValues(x, TIME, 20000);
            x.setPoints(260, 430);
            due(260, x.valueIn(0, 3));
            due(2, x.reachIn(240));
            x.setMode(0, 0, 50, 50);
            x.setPoints(250, 430);
            // the band 50 holds modes 0 and 2 back
            due(1, x.bestMode(200));
            program(x, 200, 400, 0, 5);
            due(5, x.doneIn());
        });
    }
}
