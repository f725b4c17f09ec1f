/** Compares answers with those that are due, prints each that differs, and ends a test. */
final class Due {
    private final String test;
    private int calls;
    private int wrong;

    Due(String test) {
        this.test = test;
    }

    void is(String call, long got, long want) {
        calls++;
        if (got != want) {
            wrong++;
            System.out.println(test + ": " + call + " answered " + got + ", due is " + want);
        }
    }

    void holds(String what, boolean truth) {
        is(what, truth ? 1 : 0, 1);
    }

    /** What a WATCH tells of itself, from told(watch, 0) on. */
    void told(DoseRacks x, int watch, String what, int... want) {
        for (int i = 0; i < want.length; i++) {
            is(what + ": told(" + watch + ", " + i + ")", x.told(watch, i), want[i]);
        }
    }

    void end() {
        System.out.println(test + ": " + calls + " answers, " + wrong + " not as due");
        if (wrong != 0 || calls == 0) {
            System.exit(1);
        }
    }
}
