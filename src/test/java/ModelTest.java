/** All promises: long runs of mixed calls, each answer compared with that of a model on the machine's own arrays. */
public final class ModelTest {
    private static final Due DUE = new Due("ModelTest");
    // What 512 calls leave when each cell has been lifted and told at the end.
    private static final int CALLS = 512 - 10 * 12 * 2;
    private static final int RUNS = 2500, LAST = 23;
    private static final long[] VALUES = {0, 1, -1, 127, 128, 255, 32768, 65535, 65536, (1L << 24) + 1, (1L << 24) + 3,
        Integer.MAX_VALUE, Integer.MIN_VALUE, 1L << 31, (1L << 53) + 1, (1L << 53) + 3, Long.MAX_VALUE, Long.MIN_VALUE};
    private static final int[] ODD = {-1, 10, 11, 12, 13, Integer.MAX_VALUE, Integer.MIN_VALUE};

    // A sequence that is the same each time: a failing run can be run again.
    private long seed;

    private ModelTest(long seed) {
        this.seed = seed;
    }

    public static void main(String[] args) {
        for (int run = 0; run < RUNS; run++) {
            new ModelTest(run).compare(run);
        }
        DUE.end();
    }

    private int below(int bound) {
        seed = seed * 6364136223846793005L + 1442695040888963407L;
        return (int) ((seed >>> 33) % bound);
    }

    private long number() {
        switch (below(4)) {
            case 0: return VALUES[below(VALUES.length)];
            case 1: return below(41) - 20;
            case 2: return ((long) below(Integer.MAX_VALUE) << 33) ^ ((long) below(Integer.MAX_VALUE) << 11) ^ below(4096);
            default: return (long) below(Integer.MAX_VALUE) * (below(2) == 0 ? 1 : -1) << below(33);
        }
    }

    private int argument(int usual) {
        return below(25) == 0 ? ODD[below(ODD.length)] : below(usual);
    }

    /** Some runs keep to few racks and short trays, so that calls meet one another's cells. */
    private void compare(int run) {
        DoseRacks real = new DoseRacks();
        ReflectedRacks model = new ReflectedRacks();
        int racks = run % 3 == 0 ? 3 : 10;
        for (int step = 0; step < CALLS; step++) {
            int number = step < 2 * racks ? step % 2 == 0 ? 0 : 7 : below(LAST + 1);
            int a = argument(racks);
            int b = number == 0 ? 1 + argument(11) : number == 2 || number == 8 ? argument(racks) : argument(7);
            int c = number == 0 ? argument(run % 2 == 0 ? 13 : 4) : number == 19 || number == 21 ? argument(6) : 1 + argument(8);
            long v = number == 19 && below(2) == 0 ? below(41) - 20 : number();
            // Trays and vials are few: most calls that would make one do something else.
            if (number <= 1 && step > 2 * racks && below(3) != 0) {
                number = 6 + below(3);
            }
            long got = ReflectedRacks.callReal(real, number, a, b, c, v);
            long want = model.call(number, a, b, c, v);
            DUE.is("run " + run + ", step " + step + ": " + said(number, a, b, c, v), got, want);
        }
        compareAllCells(run, real, model);
    }

    private static void compareAllCells(int run, DoseRacks real, ReflectedRacks model) {
        for (int rack = 0; rack < 10; rack++) {
            for (int i = 0; i < 12; i++) {
                for (int number : new int[] {10, 16}) {
                    DUE.is("run " + run + ", at the end: " + said(number, rack, i, 0, 0),
                        ReflectedRacks.callReal(real, number, rack, i, 0, 0), model.call(number, rack, i, 0, 0));
                }
            }
        }
    }

    static String said(int number, int a, int b, int c, long v) {
        String[] names = {"tray", "vial", "hold", "clear", "sort", "length", "ask", "fill", "pour", "total", "lift",
            "take", "think", "lay", "set", "hand", "value", "alike", "undo", "watch", "patrol", "told", "fault", "count"};
        return names[number] + " of a=" + a + " b=" + b + " c=" + c + " v=" + v;
    }
}
