/** Compares answers with those that are due, prints each that differs, and ends the test. */
final class Due {
    private static final long MOST_MILLISECONDS = 300_000;

    private final String test;
    private final boolean prints;
    private int checked = 0;
    private int wrong = 0;

    private Due(String test, boolean prints) {
        this.test = test;
        this.prints = prints;
    }

    Due(String test) {
        this(test, true);
        failIfItDoesNotEnd(test);
    }

    /** For wires that are broken on purpose: their wrong answers are counted alone. */
    static Due silent() {
        return new Due("", false);
    }

    void is(String call, long got, long want) {
        checked++;
        if (got != want) {
            wrong(call + " answered " + got + ", due is " + want);
        }
    }

    void is(String call, boolean got, boolean want) {
        is(call, got ? 1 : 0, want ? 1 : 0);
    }

    void wrong(String what) {
        wrong++;
        if (prints) {
            System.out.println(what);
        }
    }

    int wrong() {
        return wrong;
    }

    int checked() {
        return checked;
    }

    // A call that never ends would else keep the test from failing.
    private static void failIfItDoesNotEnd(String test) {
        Thread watch = new Thread(() -> {
            try {
                Thread.sleep(MOST_MILLISECONDS);
            } catch (InterruptedException e) {
                return;
            }
            System.out.println(test + " does not end");
            Runtime.getRuntime().halt(1);
        });
        watch.setDaemon(true);
        watch.start();
    }

    void end() {
        System.out.println(test + ": " + checked + " answers, " + wrong + " not as due");
        if (wrong != 0 || checked == 0) {
            System.exit(1);
        }
    }
}
