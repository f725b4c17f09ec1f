import java.lang.management.ManagementFactory;

/**
 * "No call may ever throw or fail to end, for any arguments in any state" (LANGUAGE.md, rule 7), over the 512 calls
 * that an object is used for; each answer is that of the model, too.
 */
public final class LifeTest {
    private static final Due DUE = new Due("LifeTest");
    private static final int CALLS = 512, LAST = 23, RUNS = 300;
    private static final int[] EDGES = {Integer.MIN_VALUE, -1, 0, 1, 2, 3, 5, 6, 7, 8, 9, 10, 11, 12, 13, Integer.MAX_VALUE};
    private static final long[] LONG_EDGES = {0, -1, 1L << 31, (1L << 53) + 1, Long.MAX_VALUE, Long.MIN_VALUE};
    // 512 calls are a run's share of a room of some 600,000 objects: this many bytes are a small part of it.
    private static final long ROOM = 2_000_000;

    /** Numbers of calls with their arguments, as ReflectedRacks takes them: each rack has another thing then. */
    private static final int[][] BUSY = {
        {0, 1, 5, 12}, {0, 2, 9, 2}, {1, 3, 0, 0}, {1, 4, 1, 0}, {12, 0, 0, 4}, {14, 5, 0, 0}, {0, 6, 11, 2}, {0, 7, 8, 0},
        {0, 8, 6, 3}, {0, 9, 1, 12}, {7, 1, 11, 5}, {7, 8, 2, 6}, {7, 9, 0, 1}, {11, 4, 0, 0}, {13, 2, 0, 0}, {11, 1, 0, 0},
        {13, 6, 1, 0}, {8, 1, 8, 5}, {19, 1, 0, 0}, {19, 2, 0, 1}, {19, 8, 2, 2}, {19, 8, 3, 5}, {20, 0, 0, 0}};

    private DoseRacks real;
    private ReflectedRacks model;
    private int used;
    private long seed;

    public static void main(String[] args) {
        LifeTest life = new LifeTest();
        for (int hand = 0; hand < 10; hand++) {
            life.everyCallWithEveryEdge(hand);
        }
        for (int run = 0; run < RUNS; run++) {
            life.anyArguments(run);
        }
        for (int number = 0; number <= LAST; number++) {
            life.oneCallForLife(number);
        }
        life.fitsItsRoom();
        DUE.end();
    }

    private void begin() {
        real = new DoseRacks();
        model = new ReflectedRacks();
        used = 0;
    }

    private void busy(int hand) {
        begin();
        for (int[] call : BUSY) {
            compare(call[0], call[1], call[2], call[3], 77);
        }
        compare(11, hand, 0, 0, 0);
    }

    private void compare(int number, int a, int b, int c, long v) {
        used++;
        DUE.is(ModelTest.said(number, a, b, c, v) + " as call " + used,
            ReflectedRacks.callReal(real, number, a, b, c, v), model.call(number, a, b, c, v));
    }

    private void everyCallWithEveryEdge(int hand) {
        for (int number = 0; number <= LAST; number++) {
            busy(hand);
            for (int a : EDGES) {
                for (int b : EDGES) {
                    for (int c : EDGES) {
                        if (used >= CALLS) {
                            busy(hand);
                        }
                        compare(number, a, b, c, LONG_EDGES[(used + hand) % LONG_EDGES.length]);
                    }
                }
            }
        }
    }

    private int any() {
        seed = seed * 6364136223846793005L + 1442695040888963407L;
        return (int) (seed >>> 32);
    }

    private int edgeOrAny() {
        int edge = EDGES[(any() >>> 8) % EDGES.length];
        return (any() >>> 28) == 0 ? any() : edge;
    }

    private void anyArguments(int run) {
        seed = run;
        busy(run % 10);
        while (used < CALLS) {
            compare((any() >>> 8) % (LAST + 1), edgeOrAny(), edgeOrAny(), edgeOrAny(), (long) any() << 32 ^ any());
        }
    }

    private void oneCallForLife(int number) {
        for (int rack = 0; rack < 10; rack++) {
            busy(rack);
            while (used < CALLS) {
                compare(number, rack, used % 12, 1 + used % 8, used);
            }
        }
    }

    /** The dearest calls: all twelve cells poured, each made anew on both ways. */
    private void fitsItsRoom() {
        var threads = (com.sun.management.ThreadMXBean) ManagementFactory.getThreadMXBean();
        long self = Thread.currentThread().getId();
        long before = threads.getThreadAllocatedBytes(self);
        DoseRacks x = new DoseRacks();
        x.tray(0, 4, 12);
        x.tray(1, 8, 12);
        int poured = 0;
        for (int call = 2; call < CALLS; call++) {
            poured += x.pour(0, 1, 6);
        }
        long made = threads.getThreadAllocatedBytes(self) - before;
        DUE.is("cells poured in a life", poured, 12 * (CALLS - 2));
        DUE.holds("a life of pours makes " + made + " bytes", made < ROOM);
    }
}
