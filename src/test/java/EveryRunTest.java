/**
 * Every run of so many calls out of a few that meet in the same cells, behind calls that set a scene; each answer, and
 * all that the objects tell at the end, compared with the model.
 */
public final class EveryRunTest {
    private static final Due DUE = new Due("EveryRunTest");
    private static final int RACKS = 3, LENGTH = 4;

    // Numbers of calls with their arguments a, b, c, v, as ReflectedRacks takes them.
    private static final int[][] TRAYS_SET = {{0, 0, 11, 1, 0}, {0, 1, 5, 1, 0}, {7, 1, 0, 5, 3}};
    private static final int[][] TRAYS_CALLS = {
        {0, 1, 5, 1, 0}, {2, 0, 1, 0, 0}, {2, 1, 0, 0, 0}, {2, 2, 1, 0, 0}, {3, 1, 0, 0, 0}, {7, 1, 0, 5, 7}, {7, 2, 0, 2, 9},
        {8, 1, 2, 5, 0}, {10, 0, 0, 0, 0}, {10, 1, 0, 0, 0}, {11, 1, 0, 0, 0}, {12, 0, 0, 4, 5}, {13, 0, 0, 0, 0},
        {13, 1, 0, 0, 0}, {14, 1, 0, 0, 0}, {14, 2, 0, 0, 0}, {18, 0, 0, 0, 0}, {19, 1, 0, 0, 4}, {20, 0, 0, 0, 0}};
    private static final int[][] VIALS_SET = {{0, 0, 9, 1, 0}, {0, 1, 10, 1, 0}, {1, 2, 1, 0, 6}, {11, 2, 0, 0, 0}};
    private static final int[][] VIALS_CALLS = {
        {1, 2, 0, 0, 6}, {1, 2, 1, 0, 6}, {2, 0, 1, 0, 0}, {2, 1, 0, 0, 0}, {3, 2, 0, 0, 0}, {10, 0, 0, 0, 0}, {10, 1, 0, 0, 0},
        {11, 2, 0, 0, 0}, {11, 1, 0, 0, 0}, {13, 0, 0, 0, 0}, {13, 1, 0, 0, 0}, {14, 2, 0, 0, 0}, {14, 1, 0, 0, 0},
        {18, 0, 0, 0, 0}, {19, 0, 0, 0, 4}, {20, 0, 0, 0, 0}};

    private final int[][] set;
    private final int[][] calls;
    private DoseRacks real;
    private ReflectedRacks model;
    private int run;

    private EveryRunTest(int[][] set, int[][] calls) {
        this.set = set;
        this.calls = calls;
    }

    public static void main(String[] args) {
        new EveryRunTest(TRAYS_SET, TRAYS_CALLS).compareAll();
        new EveryRunTest(VIALS_SET, VIALS_CALLS).compareAll();
        DUE.end();
    }

    private void compareAll() {
        int runs = 1;
        for (int step = 0; step < LENGTH; step++) {
            runs *= calls.length;
        }
        for (run = 0; run < runs; run++) {
            compareRun();
        }
    }

    private void compareRun() {
        real = new DoseRacks();
        model = new ReflectedRacks();
        for (int[] call : set) {
            compare(call[0], call[1], call[2], call[3], call[4]);
        }
        int rest = run;
        for (int step = 0; step < LENGTH; step++) {
            int[] call = calls[rest % calls.length];
            compare(call[0], call[1], call[2], call[3], call[4]);
            rest /= calls.length;
        }
        compareEnd();
        DUE.holds("run " + run, true);
    }

    private void compare(int number, int a, int b, int c, long v) {
        long got = ReflectedRacks.callReal(real, number, a, b, c, v);
        long want = model.call(number, a, b, c, v);
        // The words are made for a wrong answer alone: there are millions of right ones.
        if (got != want) {
            DUE.is("run " + run + " of " + calls.length + " calls: " + ModelTest.said(number, a, b, c, v), got, want);
        }
    }

    /** What is there, and again behind each undo. */
    private void compareEnd() {
        for (int what = 0; what <= 6; what++) {
            compare(23, 0, what, 0, 0);
        }
        compare(22, 0, 0, 0, 0);
        compare(15, 0, 0, 0, 0);
        compare(16, 0, 0, 0, 0);
        compareRacks();
        int notes = real.count(5);
        for (int note = 0; note <= notes; note++) {
            compare(18, 0, 0, 0, 0);
            compareRacks();
        }
    }

    private void compareRacks() {
        for (int rack = 0; rack < RACKS; rack++) {
            compare(17, rack, 0, 0, 0);
            compare(4, rack, 0, 0, 0);
            compare(9, rack, 0, 0, 0);
        }
        compare(20, 0, 0, 0, 0);
        for (int what = 0; what <= 3; what++) {
            compare(21, 0, what, 0, 0);
        }
        for (int rack = 0; rack < RACKS; rack++) {
            compare(10, rack, 0, 0, 0);
            compare(16, 0, 0, 0, 0);
            compare(17, RACKS - 1 - rack, 0, 0, 0);
        }
    }
}
