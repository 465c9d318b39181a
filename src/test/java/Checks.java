/** Counts the answers that are as due, and prints those that are not. */
final class Checks {

    /** A call of which only the exception matters. */
    interface Call {
        void run();
    }

    private static final long MOST_MILLISECONDS = 600_000;

    private final String suite;
    private int right;
    private int wrong;

    Checks(String suite) {
        this.suite = suite;
        Thread watch = new Thread(this::endLate);
        watch.setDaemon(true);
        watch.start();
    }

    /** A call that does not end fails the tests instead of holding them up. */
    private void endLate() {
        try {
            Thread.sleep(MOST_MILLISECONDS);
        } catch (InterruptedException e) {
            return;
        }
        System.out.println(suite + ": not ended in time");
        Runtime.getRuntime().halt(1);
    }

    void due(String what, long want, long got) {
        tell(want == got, what, String.valueOf(want), String.valueOf(got));
    }

    void dueDouble(String what, double want, double got) {
        tell(Double.compare(want, got) == 0, what, String.valueOf(want), String.valueOf(got));
    }

    void dueText(String what, String want, String got) {
        tell(want.equals(got), what, want, got);
    }

    void isTrue(String what, boolean fact) {
        tell(fact, what, "true", "false");
    }

    void outOfBounds(String what, Call call) {
        thrown(what, IndexOutOfBoundsException.class, call);
    }

    void badArgument(String what, Call call) {
        thrown(what, IllegalArgumentException.class, call);
    }

    void badState(String what, Call call) {
        thrown(what, IllegalStateException.class, call);
    }

    private void thrown(String what, Class<? extends RuntimeException> want, Call call) {
        String got = "no exception";
        try {
            call.run();
        } catch (RuntimeException e) {
            // The very class: the machine's own exceptions are kinds of those that are due.
            got = e.getClass().getName();
        }
        tell(want.getName().equals(got), what, want.getName(), got);
    }

    private void tell(boolean good, String what, String want, String got) {
        if (good) {
            right++;
        } else {
            wrong++;
            System.out.println(suite + ": " + what + " answered " + got + ", due is " + want);
        }
    }

    void finish() {
        System.out.println(suite + ": " + right + " answers right, " + wrong + " wrong");
        if (wrong != 0) {
            System.exit(1);
        }
    }
}
