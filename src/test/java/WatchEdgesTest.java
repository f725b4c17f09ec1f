/** Section 5 and promises 21 to 25 at their edges: watch, patrol, told, fault, count. */
public final class WatchEdgesTest {
    private static final Due DUE = new Due("WatchEdgesTest");

    public static void main(String[] args) {
        overNoneAtFirst();
        anyPlace();
        asItWasThen();
        countsAreZeroAgain();
        aboveTheLimit();
        limitsAtTheEndsOfInt();
        faultsOfEveryKind();
        noCells();
        kindAheadOfPlace();
        noCallsFaults();
        thatVeryTray();
        severalOverOneCell();
        oneBehindAnother();
        faultIsTheLatest();
        countsOfEachFault();
        DUE.end();
    }

    private static void overNoneAtFirst() {
        DoseRacks x = new DoseRacks();
        DUE.is("patrol() of none", x.patrol(), 0);
        for (int watch = 0; watch < 6; watch++) {
            DUE.told(x, watch, "over none", DoseRacks.NONE, DoseRacks.NONE, DoseRacks.NONE, DoseRacks.NONE);
        }
        DUE.is("NONE is no fault", x.fault(), 0);
        x.tray(0, 5, 1);
        x.watch(3, 0, 0, DoseRacks.NONE);
        DUE.told(x, 3, "a LIMIT that is as NONE", 0, 0, 0, DoseRacks.NONE);
        DUE.told(x, 2, "its neighbour", DoseRacks.NONE, DoseRacks.NONE, DoseRacks.NONE, DoseRacks.NONE);
        DUE.told(x, 4, "its neighbour", DoseRacks.NONE, DoseRacks.NONE, DoseRacks.NONE, DoseRacks.NONE);
    }

    private static void anyPlace() {
        int[] places = {Integer.MIN_VALUE, -1, 0, 1, 2, 12, Integer.MAX_VALUE};
        for (int kind = 1; kind <= 11; kind++) {
            for (int i : places) {
                DoseRacks x = new DoseRacks();
                x.tray(0, kind, 2);
                String what = "cell " + i + " of kind " + kind;
                DUE.is(what, x.watch(0, 0, i, -1), 1);
                DUE.told(x, 0, what, 0, 0, 0, -1);
                DUE.is(what + ": no fault", x.fault(), 0);
                boolean there = i == 0 || i == 1;
                boolean numbers = kind <= 8;
                boolean asked = kind >= 2 && numbers;
                DUE.is(what + ": patrol()", x.patrol(), there && asked ? 1 : 0);
                DUE.told(x, 0, what, there && asked ? 1 : 0, !numbers || there && !asked ? 1 : 0, numbers && !there ? 1 : 0, -1);
            }
        }
    }

    private static void asItWasThen() {
        DoseRacks x = new DoseRacks();
        x.tray(0, 5, 1);
        x.vial(1, false, 1);
        x.fill(0, 0, 5, 5);
        x.watch(0, 0, 0, 4);
        x.watch(1, 0, 1, 4);
        x.patrol();
        DUE.is("over NOTHING", x.watch(0, 9, 1, 6), -11);
        DUE.is("over a VIAL", x.watch(1, 1, 0, 6), -12);
        DUE.is("over no RACK", x.watch(0, 10, 1, 6), DoseRacks.UNKNOWN);
        DUE.told(x, 0, "as it was", 1, 0, 0, 4);
        DUE.told(x, 1, "as it was", 0, 0, 1, 4);
        DUE.is("patrol()", x.patrol(), 1);
        DUE.told(x, 0, "it goes on", 2, 0, 0, 4);
        DUE.told(x, 1, "it goes on", 0, 0, 2, 4);
        x.fill(0, 0, 5, 4);
        DUE.is("patrol(): the LIMIT is as it was", x.patrol(), 0);
    }

    private static void countsAreZeroAgain() {
        DoseRacks x = new DoseRacks();
        x.tray(0, 5, 1);
        x.tray(1, 9, 1);
        x.watch(0, 0, 0, -1);
        x.patrol();
        DUE.told(x, 0, "a CALL", 1, 0, 0, -1);
        x.watch(0, 1, 0, -2);
        DUE.told(x, 0, "over another", 0, 0, 0, -2);
        x.patrol();
        DUE.told(x, 0, "a FAULT by KIND", 0, 1, 0, -2);
        x.watch(0, 0, 7, -3);
        DUE.told(x, 0, "over no cell", 0, 0, 0, -3);
        x.patrol();
        DUE.told(x, 0, "a FAULT by PLACE", 0, 0, 1, -3);
        x.watch(0, 0, 7, -3);
        DUE.told(x, 0, "over the same again", 0, 0, 0, -3);
    }

    private static void aboveTheLimit() {
        for (int kind = 2; kind <= 8; kind++) {
            DoseRacks x = new DoseRacks();
            x.tray(0, kind, 3);
            x.fill(0, 0, kind, 9);
            x.fill(0, 1, kind, 10);
            x.fill(0, 2, kind, 11);
            for (int i = 0; i < 3; i++) {
                x.watch(i, 0, i, 10);
            }
            DUE.is("kind " + kind + ": one of 9, 10, 11 is above 10", x.patrol(), 1);
            DUE.told(x, 0, "9", 0, 0, 0, 10);
            DUE.told(x, 1, "10", 0, 0, 0, 10);
            DUE.told(x, 2, "11", 1, 0, 0, 10);
        }
    }

    /** KIND, v, LIMIT, and whether it is above. */
    private static final long[][] LIMITS = {
        {5, Integer.MAX_VALUE, Integer.MAX_VALUE, 0}, {5, Integer.MAX_VALUE, Integer.MAX_VALUE - 1, 1},
        {5, Integer.MIN_VALUE, Integer.MIN_VALUE, 0}, {5, Integer.MIN_VALUE + 1, Integer.MIN_VALUE, 1},
        {6, 1L << 31, Integer.MAX_VALUE, 1}, {6, -(1L << 31) - 1, Integer.MIN_VALUE, 0},
        {6, Long.MAX_VALUE, Integer.MAX_VALUE, 1}, {6, Long.MIN_VALUE, Integer.MIN_VALUE, 0},
        {6, Long.MIN_VALUE, Integer.MAX_VALUE, 0}, {8, Integer.MAX_VALUE, Integer.MAX_VALUE, 0},
        {7, Integer.MAX_VALUE, Integer.MAX_VALUE, 1}, {7, 16777217, 16777216, 0}, {7, 16777219, 16777219, 1},
        {8, 16777217, 16777216, 1}, {3, 65535, 65534, 1}, {3, 65535, 65535, 0}, {4, 65535, -1, 0}, {4, 65535, -2, 1},
        {2, -128, -129, 1}, {2, -128, -128, 0}};

    private static void limitsAtTheEndsOfInt() {
        for (long[] row : LIMITS) {
            DoseRacks x = new DoseRacks();
            int kind = (int) row[0];
            x.tray(0, kind, 1);
            x.fill(0, 0, kind, row[1]);
            x.watch(5, 0, 0, (int) row[2]);
            String what = "kind " + kind + " of " + row[1] + " above " + row[2];
            DUE.is(what, x.patrol(), row[3]);
            DUE.told(x, 5, what, (int) row[3], 0, 0, (int) row[2]);
        }
    }

    private static void faultsOfEveryKind() {
        for (int kind = 1; kind <= 11; kind++) {
            DoseRacks x = new DoseRacks();
            x.tray(0, kind, 1);
            x.watch(0, 0, 0, 0);
            x.patrol();
            x.patrol();
            boolean faulty = kind == 1 || kind > 8;
            DUE.told(x, 0, "kind " + kind, 0, faulty ? 2 : 0, 0, 0);
        }
    }

    private static void noCells() {
        for (int kind = 1; kind <= 11; kind++) {
            DoseRacks x = new DoseRacks();
            x.tray(0, kind, 0);
            DUE.is("watch over no cells", x.watch(0, 0, 0, Integer.MIN_VALUE), 1);
            DUE.is("patrol()", x.patrol(), 0);
            DUE.told(x, 0, "kind " + kind, 0, kind > 8 ? 1 : 0, kind > 8 ? 0 : 1, Integer.MIN_VALUE);
        }
    }

    /** TO ASK: no TRAY of NUMBERS ahead of the place, the place ahead of what does not WIDEN. */
    private static void kindAheadOfPlace() {
        DoseRacks x = new DoseRacks();
        x.tray(0, 9, 1);
        x.tray(1, 1, 1);
        x.watch(0, 0, 1, 0);
        x.watch(1, 1, 1, 0);
        x.watch(2, 1, 0, 0);
        x.patrol();
        DUE.told(x, 0, "VIALS, no such cell", 0, 1, 0);
        DUE.told(x, 1, "truths, no such cell", 0, 0, 1);
        DUE.told(x, 2, "truths", 0, 1, 0);
    }

    private static void noCallsFaults() {
        DoseRacks x = new DoseRacks();
        x.tray(0, 9, 1);
        x.tray(1, 5, 1);
        x.watch(0, 0, 0, 0);
        x.watch(1, 1, 1, 0);
        for (int round = 1; round <= 20; round++) {
            DUE.is("patrol()", x.patrol(), 0);
            DUE.told(x, 0, "round " + round, 0, round, 0);
            DUE.told(x, 1, "round " + round, 0, 0, round);
        }
        DUE.is("fault()", x.fault(), 0);
        for (int what = 2; what <= 4; what++) {
            DUE.is("count(" + what + ")", x.count(what), 0);
        }
        x.length(9);
        x.patrol();
        DUE.is("a call's own fault stays the latest", x.fault(), 1);
        DUE.is("count(2)", x.count(2), 1);
        DUE.is("count(3)", x.count(3), 0);
        DUE.is("count(4)", x.count(4), 0);
    }

    private static void thatVeryTray() {
        DoseRacks x = new DoseRacks();
        x.tray(0, 5, 1);
        x.hold(1, 0);
        x.watch(0, 0, 0, 10);
        x.clear(0);
        x.tray(0, 5, 1);
        x.fill(0, 0, 5, 99);
        DUE.is("another TRAY in its RACK", x.patrol(), 0);
        x.fill(1, 0, 5, 11);
        DUE.is("that very one in another RACK", x.patrol(), 1);
        x.clear(1);
        x.clear(0);
        DUE.is("that very one in no RACK", x.patrol(), 1);
        x.undo();
        DUE.is("its cell is as it was: undone", x.patrol(), 0);
        DUE.told(x, 0, "both", 2, 0, 0, 10);
    }

    private static void severalOverOneCell() {
        DoseRacks x = new DoseRacks();
        x.tray(0, 5, 1);
        for (int watch = 0; watch < 6; watch++) {
            x.watch(watch, 0, 0, watch);
        }
        for (int v = 0; v <= 6; v++) {
            x.fill(0, 0, 5, v);
            DUE.is("how many CALLS came of " + v, x.patrol(), v);
        }
        for (int watch = 0; watch < 6; watch++) {
            DUE.told(x, watch, "watch " + watch, 6 - watch, 0, 0, watch);
        }
    }

    private static void oneBehindAnother() {
        DoseRacks x = new DoseRacks();
        x.tray(0, 5, 1);
        x.tray(1, 11, 1);
        x.watch(0, 1, 0, -1);
        x.watch(2, 0, 4, -1);
        x.watch(5, 0, 0, -1);
        DUE.is("those ahead with FAULTS, or over none, stop nothing", x.patrol(), 1);
        DUE.told(x, 5, "the last one", 1, 0, 0);
    }

    // ---- fault, count

    private static void faultIsTheLatest() {
        DoseRacks x = new DoseRacks();
        DUE.is("none so far", x.fault(), 0);
        x.sort(10);
        x.tray(0, 0, 0);
        x.told(0, 0);
        x.undo();
        x.value();
        DUE.is("UNKNOWN, OUTSIDE, NONE, LOST are none", x.fault(), 0);
        x.tray(0, 5, 1);
        x.ask(0, 1, 5);
        DUE.is("PLACE", x.fault(), 3);
        x.ask(0, 0, 5);
        x.fill(0, 0, 5, 1);
        DUE.is("a call without one leaves it", x.fault(), 3);
        x.ask(9, 0, 5);
        DUE.is("NULL", x.fault(), 1);
        x.ask(10, 0, 5);
        x.ask(0, 0, 9);
        DUE.is("UNKNOWN and OUTSIDE of ask leave it", x.fault(), 1);
        x.lay(0, 0);
        DUE.is("KIND", x.fault(), 2);
        DUE.is("asked twice", x.fault(), 2);
    }

    private static void countsOfEachFault() {
        DoseRacks x = new DoseRacks();
        x.tray(0, 5, 1);
        x.vial(1, false, 1);
        for (int round = 1; round <= 12; round++) {
            x.length(9);
            x.ask(9, 0, 5);
            x.fill(9, 0, 5, 1);
            x.pour(9, 0, 5);
            x.total(9, true);
            x.lift(9, 0);
            x.lay(9, 0);
            x.watch(0, 9, 0, 0);
            DUE.is("NULL", x.count(2), 8 * round);
            x.length(1);
            x.ask(1, 0, 5);
            x.fill(1, 0, 5, 1);
            x.pour(1, 0, 5);
            x.total(1, true);
            x.lift(1, 0);
            x.lay(1, 0);
            x.watch(0, 1, 0, 0);
            DUE.is("KIND", x.count(3), 8 * round);
            x.take(1);
            x.ask(0, 1, 5);
            x.fill(0, 1, 5, 1);
            x.lift(0, 1);
            x.lay(0, 1);
            DUE.is("PLACE", x.count(4), 4 * round);
        }
        DUE.is("OUTSIDE, one below", x.count(-1), DoseRacks.OUTSIDE);
        DUE.is("OUTSIDE, one above", x.count(7), DoseRacks.OUTSIDE);
    }
}
