import java.lang.reflect.InvocationTargetException;
import java.lang.reflect.Method;
import java.util.ArrayList;
import java.util.Arrays;
import java.util.HashMap;
import java.util.LinkedHashMap;
import java.util.List;
import java.util.Map;

/**
 * For each promise: what its call answers in many states, what it changes, and that it leaves all the
 * rest as it is. Each call is made in each state; then all that can be asked, the saved states and what
 * comes later are compared with Model, each with a new chamber, since one is good for 512 calls alone.
 */
public final class EveryCallTests {

    private static final Checks CHECKS = new Checks("every call");

    /** The calls in the order of their promises, the first of which is number 2. */
    private static final List<String> PROMISES = List.of("set", "setMode", "setPoints", "door", "pass",
        "addSegment", "removeSegment", "setCycles", "start", "stop", "hold", "undo", "value", "setting",
        "segment", "result", "audit", "auditCode", "history", "spread", "mean", "valueIn", "doneIn",
        "reachIn", "bestMode", "append", "clear", "errorPosition", "load");

    private static final List<String> CALLS = calls("set(0, 31)", "set(4, 0)", "set(8, 0)", "set(8, 30)",
        "set(9, -200)", "set(11, 0)", "set(11, 60)", "set(12, 1)", "set(3, 0)", "setMode(0, 2, 10, 0)",
        "setMode(0, 0, 50, 2)", "setMode(1, 1, 100, 50)", "setMode(2, 0, 50, 2)", "setMode(1, 0, 0, 2)",
        "setPoints(260, 300)", "setPoints(200, 400)", "setPoints(1801, 400)", "door(true)",
        "door(false)", "pass(1)", "pass(2)", "pass(7)", "pass(500)", "pass(0)", "pass(501)",
        "addSegment(300, 500, 2, 3)", "addSegment(200, 400, 0, 0)", "removeSegment(0)",
        "removeSegment(1)", "removeSegment(12)", "setCycles(1)", "setCycles(3)", "setCycles(0)",
        "start()", "stop()", "hold(true)", "hold(false)", "undo()", "value(17)", "value(23)",
        "value(25)", "setting(9)", "setting(12)", "segment(0, 2)", "segment(12, 0)", "segment(0, 4)",
        "result(0, 2)", "result(-1, 0)", "audit(0, 1)", "audit(0, 3)", "auditCode()", "history(0)",
        "history(-1)", "spread(60)", "spread(0)", "mean(60)", "mean(0)", "valueIn(0, 9)",
        "valueIn(1, 300)", "valueIn(2, 0)", "valueIn(0, -1)", "doneIn()", "reachIn(250)",
        "reachIn(-401)", "bestMode(30)", "bestMode(0)", "append(116)", "append(31)", "clear()",
        "errorPosition()", "load()");

    private static final Map<String, List<String>> STATES = new LinkedHashMap<>();

    private static final Map<String, Method> CHAMBERS = methods(ClimateChamber.class);
    private static final Map<String, Method> MODELS = methods(Model.class);

    private final String label;
    private final ClimateChamber chamber = new ClimateChamber();
    private final Model model;
    private int made;

    private EveryCallTests(String label, List<String> state, Model model) {
        this.label = label;
        this.model = model;
        for (String call : state) {
            made++;
            answer(CHAMBERS, chamber, call);
        }
    }

    public static void main(String[] args) {
        addStates();
        STATES.forEach((name, state) -> {
            tryCalls(name, state, CALLS);
            List<String> unsaved = new ArrayList<>(state);
            unsaved.addAll(calls("6 set(7, 20)", "6 undo()"));
            tryCalls(name + " without saved states", unsaved, List.of("undo()"));
        });
        CHECKS.finish();
    }

    private static void tryCalls(String name, List<String> state, List<String> calls) {
        Model model = new Model();
        for (String call : state) {
            answer(MODELS, model, call);
        }
        for (String call : calls) {
            int promise = PROMISES.indexOf(call.substring(0, call.indexOf('('))) + 2;
            String label = "promise " + promise + ", in " + name + " behind " + call;
            for (int look = 0; look < 3; look++) {
                new EveryCallTests(label, state, model.copy()).go(call, look);
            }
        }
    }

    // ---- the states

    private static void addStates() {
        STATES.put("a new chamber", List.of());
        List<String> used = calls("set(0, 30)", "set(9, 350)", "setMode(0, 1, 70, 3)",
            "setMode(1, 2, 80, 4)", "addSegment(215, 425, 2, 2)", "addSegment(270, 380, 0, 2)",
            "setCycles(4)", "pass(2)", "start()", "pass(22)", "door(true)", "pass(1)", "door(false)",
            "pass(2)");
        addRunning(used);
        List<String> idle = state("an idle one", used, "stop()", "setPoints(231, 433)", "pass(2)",
            "text t-20h30r4s5;t1h2r0s3;");
        state("an idle one with an open door", idle, "door(true)", "pass(3)");
        state("an idle one with one saved state", idle, "5 undo()");
        state("one with a wrong text", used, "stop()", "text t1801h1r1s1;t1h1r0s0;");
        state("one with a long wrong text", used, "stop()",
            "text " + "t1h1r1s1;".repeat(9) + "t1h1r1s1t");
        state("a stopped one, blocked", used, "pass(9)", "stop()");
        addBlocked();
        state("one with 12 segments", List.of(), "10 addSegment(210, 410, 1, 1)",
            "2 addSegment(190, 390, 0, 1)", "setCycles(2)", "text t1h1r1s1;");
        state("a failed one", List.of(), "set(11, 2)", "addSegment(1000, 900, 2, 5)", "setCycles(3)",
            "start()", "pass(9)", "text t1h1r1s1;t2h2r2s2;");
        state("a done one", List.of(), "addSegment(240, 440, 2, 2)", "addSegment(190, 380, 0, 1)",
            "setCycles(2)", "start()", "pass(60)", "text t1h1r1s1;t2h2r2s2;");
        state("one with full rows", List.of(), "set(6, 100)", "addSegment(300, 400, 0, 1)",
            "addSegment(190, 400, 1, 0)", "setCycles(20)", "start()", "pass(70)", "start()", "pass(7)",
            "text " + "t1h1r1s1;".repeat(10));
        state("an idle one without saved states", idle, "6 undo()", "pass(1)", "stop()", "6 pass(1)",
            "6 undo()");
        addLate(idle);
    }

    /** Chambers that are blocked in the latest minute, the next one, or both. */
    private static void addBlocked() {
        List<String> heated = calls("addSegment(230, 380, 0, 5)", "addSegment(190, 380, 8, 5)",
            "set(4, 0)", "set(8, 4)", "setPoints(220, 380)", "pass(1)");
        List<String> cooled = calls("addSegment(230, 380, 0, 5)", "set(4, 0)", "set(8, 30)",
            "setPoints(185, 420)", "pass(1)");
        state("one whose heating is blocked", cooled, "setPoints(230, 380)", "pass(2)",
            "text t1h1r1s1;");
        state("one whose heating will be blocked", cooled, "setPoints(230, 380)", "text t1h1r1s1;");
        List<String> blocked = state("one whose cooling is blocked", heated, "setPoints(180, 420)",
            "pass(2)");
        state("a blocked one whose door has just been opened", blocked, "door(true)");
        state("a blocked one whose door was open for a minute", blocked, "door(true)", "pass(1)");
        state("a program whose heating is blocked", cooled, "start()", "pass(1)");
        state("a program whose heating will be blocked", cooled, "start()");
        state("a program whose cooling was blocked until now", heated, "start()", "pass(2)", "stop()",
            "removeSegment(0)", "start()", "pass(4)");
    }

    private static void addRunning(List<String> used) {
        List<String> soaking = state("a soak", used, "text t1h2");
        state("a held soak", soaking, "hold(true)");
        state("a soak with an open door", soaking, "door(true)", "pass(1)");
        List<String> ramping = state("a ramp", used, "pass(3)", "text t1h1r1s1;");
        List<String> held = state("a held ramp", ramping, "hold(true)", "pass(1)");
        state("a held ramp with an open door", held, "door(true)", "pass(2)");
        state("a ramp with an open door", ramping, "door(true)", "pass(1)");
        state("a blocked program", used, "pass(9)");
        List<String> longRamp = state("a long ramp", List.of(), "addSegment(600, 800, 90, 3)",
            "addSegment(100, 100, 20, 0)", "start()", "pass(30)");
        state("a held long ramp", longRamp, "hold(true)", "pass(3)");
        state("a program of 12 segments", List.of(), "12 addSegment(210, 410, 1, 1)", "start()",
            "pass(7)");
        state("a program without saved states", used, "6 pass(1)", "6 undo()");
        addTurning();
    }

    /** Programs of which the next minutes decide whether the set points stay or go far away. */
    private static void addTurning() {
        List<String> near = calls("set(4, 0)", "set(8, 0)", "setMode(0, 0, 20, 5)");
        state("a program that is about to fail", near, "set(11, 2)", "addSegment(205, 460, 0, 1)",
            "addSegment(260, 460, 0, 9)", "start()", "pass(2)");
        state("a program whose humidity stays behind", near, "setMode(1, 1, 1, 0)",
            "addSegment(205, 460, 0, 1)", "addSegment(260, 460, 0, 9)", "start()", "pass(1)");
        state("a program in its last cycle", near, "set(1, 10)", "set(6, 100)",
            "addSegment(300, 400, 0, 20)", "addSegment(245, 400, 0, 10)", "setCycles(2)", "start()",
            "pass(56)");
        state("a ramp that the humidity follows slowly", near, "set(0, 50)", "set(2, 50)",
            "setMode(1, 1, 10, 0)", "addSegment(205, 800, 40, 1)", "addSegment(260, 800, 0, 9)",
            "start()", "pass(26)");
        state("a ramp that the temperature follows slowly", near, "set(0, 50)", "set(5, 0)", "set(6, 20)",
            "setMode(0, 1, 10, 0)", "addSegment(600, 400, 40, 1)", "start()", "pass(20)");
    }

    private static void addLate(List<String> idle) {
        state("an idle one at the latest time", idle, "39 pass(500)", "pass(400)", "pass(71)");
        state("an open one at the latest time", idle, "39 pass(500)", "door(true)", "pass(471)",
            "setPoints(-100, 0)");
        List<String> late = state("a program at the latest time", List.of(), "addSegment(300, 500, 500, 2)",
            "addSegment(210, 410, 3, 2)", "39 pass(500)", "start()", "pass(300)", "pass(200)");
        state("a held program at the latest time", late, "hold(true)");
        state("a full one just before the latest time", List.of(), "12 addSegment(210, 410, 1, 1)",
            "39 pass(500)", "pass(499)", "setPoints(260, 500)");
    }

    private static List<String> state(String name, List<String> before, String... behind) {
        List<String> state = new ArrayList<>(before);
        state.addAll(calls(behind));
        STATES.put(name, state);
        return state;
    }

    /** Calls as they stand, "3 pass(1)" for three of them, and "text .." for what is appended. */
    private static List<String> calls(String... told) {
        List<String> calls = new ArrayList<>();
        for (String one : told) {
            if (one.startsWith("text ")) {
                one.substring(5).chars().forEach(code -> calls.add("append(" + code + ")"));
            } else if (Character.isDigit(one.charAt(0))) {
                int times = Integer.parseInt(one.substring(0, one.indexOf(' ')));
                for (int i = 0; i < times; i++) {
                    calls.add(one.substring(one.indexOf(' ') + 1));
                }
            } else {
                calls.add(one);
            }
        }
        return calls;
    }

    // ---- calls told as texts

    private static Map<String, Method> methods(Class<?> type) {
        Map<String, Method> methods = new HashMap<>();
        for (Method method : type.getDeclaredMethods()) {
            if (PROMISES.contains(method.getName())) {
                methods.put(method.getName(), method);
            }
        }
        return methods;
    }

    private static Object argument(String told) {
        boolean truth = told.equals("true") || told.equals("false");
        return truth ? (Object) Boolean.valueOf(told) : (Object) Integer.valueOf(told);
    }

    private static String answer(Map<String, Method> methods, Object object, String call) {
        int place = call.indexOf('(');
        String told = call.substring(place + 1, call.length() - 1);
        Object[] arguments = told.isEmpty() ? new Object[0]
            : Arrays.stream(told.split(", ")).map(EveryCallTests::argument).toArray();
        try {
            return String.valueOf(methods.get(call.substring(0, place)).invoke(object, arguments));
        } catch (InvocationTargetException e) {
            return e.getCause().getClass().getName();
        } catch (IllegalAccessException e) {
            throw new IllegalStateException(call, e);
        }
    }

    /** Makes the call on both and compares what they answer. */
    private String ask(String call) {
        made++;
        String want = answer(MODELS, model, call);
        CHECKS.dueText(label + ": " + call, want, answer(CHAMBERS, chamber, call));
        return want;
    }

    // ---- what is looked at

    private void go(String call, int look) {
        ask(call);
        if (look == 0) {
            surface();
        } else if (look == 1) {
            savedStates();
        } else {
            later();
        }
        CHECKS.isTrue(label + ": not more than 512 calls", made <= 512);
    }

    private void values() {
        for (int what = 0; what <= 24; what++) {
            ask("value(" + what + ")");
        }
    }

    private void surface() {
        values();
        for (int i = 0; i < 12; i++) {
            ask("setting(" + i + ")");
        }
        int segments = model.value(21);
        for (int i = 0; i < 4 * segments; i++) {
            ask("segment(" + i / 4 + ", " + i % 4 + ")");
        }
        int back = 0;
        while (!ask("history(" + back + ")").equals("-10000")) {
            back++;
        }
        rows();
        ask("spread(60)");
        ask("mean(7)");
        ask("errorPosition()");
    }

    private void rows() {
        for (int i = 0; i <= 4 * 16; i++) {
            ask("result(" + i / 4 + ", " + i % 4 + ")");
        }
        for (int i = 0; i <= 3 * 24; i++) {
            ask("audit(" + i / 3 + ", " + i % 3 + ")");
        }
        ask("auditCode()");
    }

    /** What would be, and the same behind each undo. */
    private void savedStates() {
        ask("doneIn()");
        ask("reachIn(" + (model.value(1) - 40) + ")");
        for (int saved = 0; saved <= 6; saved++) {
            values();
            ask("valueIn(0, 2)");
            ask("valueIn(1, 25)");
            ask("bestMode(5)");
            ask("setting(0)");
            ask("result(15, 2)");
            ask("audit(23, 2)");
            ask("auditCode()");
            ask("history(59)");
            ask("undo()");
        }
    }

    /** What the state leads to, the text and the controls at last. */
    private void later() {
        ask("errorPosition()");
        ask("append(120)");
        ask("errorPosition()");
        ask("clear()");
        for (int i = 0; i < 8; i++) {
            ask(i == 4 ? "hold(false)" : "auditCode()");
            ask("pass(1)");
            values();
        }
        ask("pass(60)");
        rows();
        ask("stop()");
        for (int distance : new int[] {1, 2, 3, 4, 5, 8, 20, 49, 51, 90}) {
            ask("setPoints(" + (model.value(1) + distance) + ", " + (model.value(2) - distance) + ")");
            ask("valueIn(0, 1)");
            ask("valueIn(1, 1)");
        }
        ask("start()");
        ask("value(5)");
    }
}
