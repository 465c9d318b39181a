import java.util.Random;

/** Runs of random calls, always the same ones, on the class and on Model; all answers must agree. */
public final class RandomRunTests {

    private static final int RUNS = 1500;
    private static final int CALLS = 512;

    /** A call whose answer is compared as a text. */
    private interface Call {
        Object answer();
    }

    private final Checks checks;
    private final Random random;
    private final int run;
    private final ClimateChamber chamber = new ClimateChamber();
    private final Model model = new Model();
    private int number;
    /** Long runs of small steps in some runs, large steps in others. */
    private final int longest;

    private RandomRunTests(Checks checks, int run) {
        this.checks = checks;
        this.run = run;
        random = new Random(run);
        longest = new int[] {3, 30, 120, 500}[run % 4];
    }

    public static void main(String[] args) {
        Checks checks = new Checks("random runs");
        for (int run = 0; run < RUNS; run++) {
            new RandomRunTests(checks, run).go();
        }
        checks.finish();
    }

    private void go() {
        while (number < CALLS) {
            step(random.nextInt(100));
        }
    }

    private static String tried(Call call) {
        try {
            return String.valueOf(call.answer());
        } catch (RuntimeException e) {
            return e.getClass().getName();
        }
    }

    private void compare(String what, Call wanted, Call got) {
        if (number < CALLS) {
            number++;
            checks.dueText("run " + run + ", call " + number + ", " + what, tried(wanted),
                tried(got));
        }
    }

    /** Mostly a number within the bounds, now and then one at them or just beyond. */
    private int near(int least, int greatest) {
        int kind = random.nextInt(40);
        if (kind == 0) {
            return random.nextInt(3) == 0 ? random.nextInt() : least - 1;
        }
        if (kind == 1) {
            return greatest + 1;
        }
        if (kind == 2) {
            return least;
        }
        if (kind == 3) {
            return greatest;
        }
        return least + random.nextInt(greatest - least + 1);
    }

    private int temperature() {
        return random.nextInt(3) == 0 ? near(-400, 1800) : near(150, 300);
    }

    private int humidity() {
        return random.nextInt(3) == 0 ? near(0, 1000) : near(350, 450);
    }

    private int minutes() {
        return random.nextInt(3) == 0 ? near(0, 500) : near(0, 8);
    }

    private void step(int kind) {
        if (kind < 6) {
            int i = near(0, 11);
            int v = i >= 0 && i < 12 ? near(Model.LOW[i], Model.HIGH[i]) : near(0, 20);
            compare("set(" + i + ", " + v + ")", () -> model.set(i, v), () -> chamber.set(i, v));
        } else if (kind < 10) {
            int c = near(0, 1);
            int m = near(0, 2);
            int g = near(1, 100);
            int b = near(0, random.nextInt(50) + 1);
            compare("setMode(" + c + ", " + m + ", " + g + ", " + b + ")",
                () -> model.setMode(c, m, g, b), () -> chamber.setMode(c, m, g, b));
        } else if (kind < 13) {
            int t = temperature();
            int h = humidity();
            compare("setPoints(" + t + ", " + h + ")", () -> model.setPoints(t, h),
                () -> chamber.setPoints(t, h));
        } else if (kind < 17) {
            boolean open = random.nextInt(3) == 0;
            compare("door(" + open + ")", () -> model.door(open), () -> chamber.door(open));
        } else if (kind < 37) {
            int m = near(1, longest);
            compare("pass(" + m + ")", () -> model.pass(m), () -> chamber.pass(m));
        } else if (kind < 44) {
            int t = temperature();
            int h = humidity();
            int r = minutes();
            int s = minutes();
            compare("addSegment(" + t + ", " + h + ", " + r + ", " + s + ")",
                () -> model.addSegment(t, h, r, s), () -> chamber.addSegment(t, h, r, s));
        } else if (kind < 60) {
            stepProgram(kind);
        } else if (kind < 70) {
            stepText();
        } else {
            stepQuestion(kind);
        }
    }

    private void stepProgram(int kind) {
        if (kind < 45) {
            int s = near(0, 4);
            compare("removeSegment(" + s + ")", () -> model.removeSegment(s),
                () -> chamber.removeSegment(s));
        } else if (kind < 47) {
            int c = random.nextBoolean() ? near(1, 20) : near(1, 2);
            compare("setCycles(" + c + ")", () -> model.setCycles(c), () -> chamber.setCycles(c));
        } else if (kind < 53) {
            compare("start()", model::start, chamber::start);
        } else if (kind < 54) {
            compare("stop()", model::stop, chamber::stop);
        } else if (kind < 57) {
            boolean held = random.nextInt(3) == 0;
            compare("hold(" + held + ")", () -> model.hold(held), () -> chamber.hold(held));
        } else {
            int times = random.nextInt(8) == 0 ? 7 : 1;
            for (int i = 0; i < times; i++) {
                compare("undo()", model::undo, chamber::undo);
            }
        }
    }

    private void stepText() {
        if (random.nextInt(4) == 0) {
            compare("clear()", model::clear, chamber::clear);
        }
        StringBuilder text = new StringBuilder();
        int segments = random.nextInt(6) == 0 ? 11 : random.nextInt(3) + 1;
        for (int i = 0; i < segments; i++) {
            text.append('t').append(segments == 11 ? random.nextInt(10) : temperature());
            text.append('h').append(segments == 11 ? random.nextInt(10) : humidity());
            text.append('r').append(random.nextInt(10)).append('s').append(random.nextInt(3));
            text.append(';');
        }
        if (random.nextInt(3) == 0) {
            int place = random.nextInt(text.length());
            text.setCharAt(place, "t-0123456789hrs; ".charAt(random.nextInt(17)));
        }
        if (random.nextInt(5) == 0) {
            text.setLength(random.nextInt(text.length()));
        }
        for (int i = 0; i < text.length(); i++) {
            int code = random.nextInt(200) == 0 ? near(32, 126) : text.charAt(i);
            compare("append(" + code + ")", () -> model.append(code), () -> chamber.append(code));
        }
        compare("errorPosition()", model::errorPosition, chamber::errorPosition);
        if (random.nextInt(2) == 0) {
            compare("load()", model::load, chamber::load);
        }
    }

    private void stepQuestion(int kind) {
        int i = near(0, kind % 2 == 0 ? 3 : 25);
        int p = near(0, 3);
        int m = near(1, 60);
        if (kind < 78) {
            int w = near(0, 24);
            compare("value(" + w + ")", () -> model.value(w), () -> chamber.value(w));
        } else if (kind < 79) {
            int s = near(0, 11);
            compare("setting(" + s + ")", () -> model.setting(s), () -> chamber.setting(s));
        } else if (kind < 81) {
            compare("segment(" + i + ", " + p + ")", () -> model.segment(i, p),
                () -> chamber.segment(i, p));
        } else if (kind < 84) {
            compare("result(" + i + ", " + p + ")", () -> model.result(i, p),
                () -> chamber.result(i, p));
        } else if (kind < 87) {
            int q = near(0, 2);
            compare("audit(" + i + ", " + q + ")", () -> model.audit(i, q),
                () -> chamber.audit(i, q));
        } else if (kind < 90) {
            compare("auditCode()", model::auditCode, chamber::auditCode);
        } else if (kind < 91) {
            int b = near(0, 60);
            compare("history(" + b + ")", () -> model.history(b), () -> chamber.history(b));
        } else if (kind < 92) {
            compare("spread(" + m + ")", () -> model.spread(m), () -> chamber.spread(m));
        } else if (kind < 93) {
            compare("mean(" + m + ")", () -> model.mean(m), () -> chamber.mean(m));
        } else if (kind < 95) {
            int c = near(0, 1);
            int n = random.nextBoolean() ? near(0, 300) : near(0, 9);
            compare("valueIn(" + c + ", " + n + ")", () -> model.valueIn(c, n),
                () -> chamber.valueIn(c, n));
        } else if (kind < 97) {
            compare("doneIn()", model::doneIn, chamber::doneIn);
        } else if (kind < 98) {
            int t = temperature();
            compare("reachIn(" + t + ")", () -> model.reachIn(t), () -> chamber.reachIn(t));
        } else {
            int n = random.nextBoolean() ? near(1, 200) : near(1, 12);
            compare("bestMode(" + n + ")", () -> model.bestMode(n), () -> chamber.bestMode(n));
        }
    }
}
