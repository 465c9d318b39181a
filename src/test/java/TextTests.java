/** A test for each sentence of the promises 27 to 30 that names a boundary case. */
public final class TextTests extends Sentences {

    private static final String ONE = "t1h1r1s1;";

    private TextTests() {
        super("text");
    }

    public static void main(String[] args) {
        new TextTests().run();
    }

    private void run() {
        section("Promise 27: append");
        append();
        endOfSection();
        section("Promise 28: clear");
        clear();
        endOfSection();
        section("Promise 29: errorPosition");
        position();
        endOfSection();
        section("Promise 30: load");
        load();
        loadRefused();
        endOfSection();
        finish();
    }

    private static Use typed(String text) {
        return x -> type(x, text);
    }

    private static Use typed(Use made, String text) {
        return x -> {
            made.of(x);
            x.clear();
            type(x, text);
        };
    }

    private void append() {
        test("`code`: its code, 32 to 126", x -> {
            due(1, x.append(32));
            due(2, x.append(126));
            dueError(0, " ");
            dueError(0, "~");
            refuse(ARGUMENT, y -> { }, y -> y.append(31), y -> y.append(127));
        });
        test("Returns the length of the text.", x -> {
            for (int length = 1; length <= 90; length++) {
                due(length, x.append('0'));
                dueValues(x, LENGTH, length);
            }
        });
        test("Throws `IllegalArgumentException` if code is out of range", x -> {
            refuse(ARGUMENT, typed(ONE), y -> y.append(31), y -> y.append(127), y -> y.append(-1),
                y -> y.append(0), y -> y.append('t' + 256), y -> y.append('t' + 65536),
                y -> y.append(MIN), y -> y.append(MAX));
            // it is listed first
            refuse(ARGUMENT, typed("t".repeat(90)), y -> y.append(31), y -> y.append(127));
        });
        test("Throws `IllegalStateException` if the text has 90 characters", x -> {
            type(x, "t".repeat(89));
            due(90, x.append('t'));
            dueThrow(STATE, x, y -> y.append('t'));
            refuse(STATE, typed("t".repeat(90)), y -> y.append('t'), y -> y.append(32),
                y -> y.append(126));
            refuse(STATE, typed(ONE.repeat(10)), y -> y.append('t'));
        });
        test("Appends a character to the buffer.", x -> {
            // it is not undoable
            type(x, "t1");
            dueValues(x, SAVED, 0);
            // behind the others
            type(x, "h1r1s1;");
            due(NONE, x.errorPosition());
        });
    }

    private void clear() {
        test("Returns the length that the text had.", x -> {
            due(0, x.clear());
            type(x, "t");
            due(1, x.clear());
            due(0, x.clear());
            type(x, "t".repeat(90));
            due(90, x.clear());
            dueValues(x, LENGTH, 0);
        });
        test("Empties the buffer.", x -> {
            type(x, "t".repeat(90));
            x.clear();
            due(0, x.errorPosition());
            due(1, x.append('t'));
            due(1, x.errorPosition());
            // it is not undoable
            dueValues(x, SAVED, 0);
        });
        test("Empties the buffer.", x -> {
            // the old characters do not come back
            type(x, "t1234h1r1s1;");
            x.clear();
            String text = "t1h1r1s1";
            for (int length = 1; length <= text.length(); length++) {
                x.append(text.charAt(length - 1));
                due(length, x.errorPosition());
            }
            changesNothing(RAMPING, y -> {
                y.clear();
                type(y, "t1h2");
            });
        });
    }

    private void position() {
        test("NONE if the text has no error.", x -> {
            dueError(NONE, ONE);
            dueError(NONE, ONE.repeat(10));
            dueError(NONE, "t-400h1000r500s0;t1800h0r0s500;");
            due(0, x.errorPosition());
        });
        test("Returns the error position", x -> {
            dueError(0, "");
            dueError(0, "h");
            dueError(8, "t1h1r1s1");
            dueError(9, ONE + "x");
            dueError(0, "t1h1r0s0;");
            dueError(81, ONE.repeat(9) + "t1h1r0s0;");
            dueError(90, ONE.repeat(8) + "t-400h1000r500s500");
        });
        test("Returns the error position", x -> {
            changesNothing(typed(IDLE_ONE, ONE + "t1801h1r1s1;"), y -> y.errorPosition());
            changesNothing(typed(RAMPING, ONE), y -> y.errorPosition());
        });
    }

    private void load() {
        test("Replaces all segments by those of the text, and empties the buffer.", x -> {
            FULL.of(x);
            type(x, "t-400h1000r500s0;t1800h0r0s500;");
            x.load();
            dueValues(x, SEGMENTS, 2, LENGTH, 0);
            int[] properties = {-400, 1000, 500, 0, 1800, 0, 0, 500};
            for (int i = 0; i < 8; i++) {
                due(properties[i], x.segment(i / 4, i % 4));
            }
            dueThrow(OUT, x, y -> y.segment(2, 0));
            due(0, x.errorPosition());
            due(1, x.append('t'));
            due(1, x.errorPosition());
        });
        test("Replaces all segments by those of the text", x -> {
            StringBuilder text = new StringBuilder();
            for (int i = 0; i < 10; i++) {
                text.append('t').append(i).append("h1r1s1;");
            }
            type(x, text.toString());
            due(10, x.load());
            for (int i = 0; i < 10; i++) {
                due(i, x.segment(i, 0));
            }
        });
        test("Undoable.", x -> {
            undoable(typed(ONE), y -> y.load(), typed(ONE));
            undoable(typed(FULL, ONE), y -> y.load(), typed(ONE));
            undoable(typed(IDLE_ONE, "t9h8r7s6;"), y -> y.load(), typed("t9h8r7s6;"));
        });
        test("Undoable.", x -> {
            // undo brings the segments back, but not the text
            FULL.of(x);
            type(x, ONE);
            x.load();
            x.undo();
            dueValues(x, SEGMENTS, 12, LENGTH, 0);
            due(211, x.segment(11, 0));
        });
        test("Returns the number of segments.", x -> {
            type(x, ONE);
            due(1, x.load());
            type(x, ONE.repeat(10));
            due(10, x.load());
            type(x, ONE.repeat(2));
            due(2, x.load());
        });
    }

    private void loadRefused() {
        test("Throws `IllegalArgumentException` if the text has an error", x -> {
            String[] texts = {"", "x", "t1h1r1s1", ONE + "t", ONE + " ", "t1801h1r1s1;", "t1h1r0s0;",
                ONE + "t1h1001r1s1;", ONE.repeat(9) + "t1h1r0s0;"};
            for (String text : texts) {
                refuse(ARGUMENT, typed(text), y -> y.load());
                refuse(ARGUMENT, typed(IDLE_ONE, text), y -> y.load());
                // it is listed first
                refuse(ARGUMENT, typed(RAMPING, text), y -> y.load());
            }
        });
        test("Throws `IllegalStateException` if a program runs", x -> {
            refuse(STATE, typed(RAMPING, ONE), y -> y.load());
            refuse(STATE, typed(SOAKING, ONE), y -> y.load());
            refuse(STATE, typed(HELD_ONE, ONE), y -> y.load());
            due(1, make(typed(IDLE_ONE, ONE)).load());
            due(1, make(typed(DONE_ONE, ONE)).load());
            due(1, make(typed(FAILED_ONE, ONE)).load());
        });
    }
}
