/** Promises 20 to 25: undo, watch, patrol, told, fault, count. */
public final class NotesWatchesTest {
    private static final Due DUE = new Due("NotesWatchesTest");

    public static void main(String[] args) {
        undoes();
        latestThirty();
        undoesOfThings();
        watches();
        watchFaults();
        patrolFaults();
        limits();
        faults();
        counts();
        DUE.end();
    }

    private static void undoes() {
        DoseRacks x = new DoseRacks();
        x.tray(0, 4, 5);
        x.fill(0, 3, 4, 10);
        x.fill(0, 3, 4, 20);
        x.think(2, -7);
        x.lay(0, 1);
        DUE.is("count(5)", x.count(5), 3);
        x.hold(5, 0);
        x.clear(0);
        DUE.is("undo() of lay", x.undo(), 1);
        DUE.is("that very TRAY", x.ask(5, 1, 4), 0);
        DUE.is("undo() of fill", x.undo(), 3);
        DUE.is("what it had", x.ask(5, 3, 4), 10);
        DUE.is("count(5)", x.count(5), 1);
        x.fill(5, 4, 4, 40);
        DUE.is("undo() of a later one", x.undo(), 4);
        DUE.is("undo() of the first", x.undo(), 3);
        DUE.is("what it had", x.ask(5, 3, 4), 0);
        DUE.is("undo() of none", x.undo(), DoseRacks.NONE);
        DUE.is("undo() of none", x.undo(), DoseRacks.NONE);
        DUE.is("count(5)", x.count(5), 0);
        x.fill(5, 2, 4, 0);
        DUE.is("a cell filled by what it had is noted, too", x.undo(), 2);
    }

    private static void latestThirty() {
        DoseRacks x = new DoseRacks();
        x.tray(0, 6, 12);
        for (int step = 1; step <= 100; step++) {
            x.fill(0, step % 12, 6, step);
            DUE.is("notes after " + step, x.count(5), Math.min(step, 30));
        }
        for (int step = 100; step > 70; step--) {
            DUE.is("undo of " + step, x.undo(), step % 12);
            DUE.is("what the cell had ahead of " + step, x.ask(0, step % 12, 6), step - 12);
        }
        DUE.is("undo of 70", x.undo(), DoseRacks.NONE);
        DUE.is("70 stays", x.ask(0, 70 % 12, 6), 70);
        x.tray(1, 6, 12);
        for (int times = 0; times < 4; times++) {
            DUE.is("pour", x.pour(0, 1, 6), 12);
        }
        DUE.is("notes of pours", x.count(5), 30);
        for (int step = 0; step < 30; step++) {
            DUE.is("undo of pour", x.undo(), 11 - step % 12);
        }
        DUE.is("undo of none", x.undo(), DoseRacks.NONE);
        DUE.is("cells poured are not taken back", x.count(6), 48);
    }

    private static void undoesOfThings() {
        DoseRacks x = new DoseRacks();
        x.tray(0, 9, 2);
        x.vial(1, false, 1);
        x.vial(2, true, 2);
        x.take(1);
        x.lay(0, 0);
        x.take(2);
        x.lay(0, 0);
        x.take(9);
        x.lay(0, 0);
        DUE.is("undo()", x.undo(), 0);
        x.lift(0, 0);
        DUE.is("the ampoule", x.alike(2), 1);
        DUE.is("undo()", x.undo(), 0);
        x.lift(0, 0);
        DUE.is("the vial", x.alike(1), 1);
        DUE.is("undo()", x.undo(), 0);
        DUE.is("NOTHING", x.lift(0, 0), 0);
        DUE.is("undo()", x.undo(), DoseRacks.NONE);
        DUE.is("fault()", x.fault(), 0);
    }

    private static void watches() {
        DoseRacks x = new DoseRacks();
        x.tray(0, 5, 3);
        for (int watch = 0; watch < 6; watch++) {
            DUE.is("watch over none", x.told(watch, 3), DoseRacks.NONE);
            DUE.is("watch(" + watch + ", ..)", x.watch(watch, 0, watch % 3, watch - 1), 1);
            DUE.is("its limit", x.told(watch, 3), watch - 1);
            DUE.is("its calls", x.told(watch, 0), 0);
        }
        DUE.is("patrol(): one limit is under 0", x.patrol(), 1);
        DUE.is("its calls", x.told(0, 0), 1);
        x.fill(0, 1, 5, 4);
        DUE.is("patrol(): cell 1 is above 0 and 3", x.patrol(), 3);
        DUE.is("calls of 0", x.told(0, 0), 2);
        DUE.is("calls of 1", x.told(1, 0), 1);
        DUE.is("calls of 2", x.told(2, 0), 0);
        DUE.is("calls of 4", x.told(4, 0), 1);
        x.hold(1, 0);
        x.tray(0, 5, 3);
        DUE.is("patrol(): still that very TRAY", x.patrol(), 3);
        x.watch(1, 1, 1, 4);
        DUE.is("its counts are 0", x.told(1, 0), 0);
        DUE.is("patrol(): as much as the limit is not above", x.patrol(), 2);
        DUE.is("its counts are 0", x.told(1, 0), 0);
        DUE.is("watch(6, ..)", x.watch(6, 0, 0, 0), DoseRacks.UNKNOWN);
        DUE.is("watch(-1, ..)", x.watch(-1, 0, 0, 0), DoseRacks.UNKNOWN);
        DUE.is("watch(0, 10, ..)", x.watch(0, 10, 0, 0), DoseRacks.UNKNOWN);
        DUE.is("watch(0, -1, ..)", x.watch(0, -1, 0, 0), DoseRacks.UNKNOWN);
        DUE.is("it is as it was", x.told(0, 0), 4);
        DUE.is("told(-1, 0)", x.told(-1, 0), DoseRacks.UNKNOWN);
        DUE.is("told(6, 9)", x.told(6, 9), DoseRacks.UNKNOWN);
        DUE.is("told(0, 4)", x.told(0, 4), DoseRacks.OUTSIDE);
        DUE.is("told(0, -1)", x.told(0, -1), DoseRacks.OUTSIDE);
        DUE.is("OUTSIDE ahead of NONE", new DoseRacks().told(0, 4), DoseRacks.OUTSIDE);
    }

    private static void watchFaults() {
        DoseRacks x = new DoseRacks();
        x.tray(0, 5, 1);
        x.fill(0, 0, 5, 1);
        x.watch(2, 0, 0, 0);
        x.patrol();
        DUE.is("watch over NOTHING", x.watch(2, 1, 0, 7), -11);
        DUE.is("fault()", x.fault(), 1);
        x.vial(1, false, 0);
        DUE.is("watch over a VIAL", x.watch(2, 1, 0, 7), -12);
        DUE.is("fault()", x.fault(), 2);
        x.think(5, 5);
        x.set(1);
        DUE.is("watch over a NUMBER", x.watch(3, 1, 0, 7), -12);
        DUE.is("its limit is as it was", x.told(2, 3), 0);
        DUE.is("its calls are as they were", x.told(2, 0), 1);
        DUE.is("the other is over none", x.told(3, 0), DoseRacks.NONE);
        DUE.is("patrol()", x.patrol(), 1);
        DUE.is("its calls", x.told(2, 0), 2);
    }

    private static void patrolFaults() {
        DoseRacks x = new DoseRacks();
        x.tray(0, 9, 1);
        x.tray(1, 1, 1);
        x.tray(2, 8, 1);
        x.watch(0, 0, 0, -1);
        x.watch(1, 0, 5, -1);
        x.watch(2, 1, 0, -1);
        x.watch(3, 1, 5, -1);
        x.watch(4, 2, Integer.MIN_VALUE, -1);
        x.watch(5, 2, 0, -1);
        DUE.is("patrol()", x.patrol(), 1);
        DUE.is("patrol()", x.patrol(), 1);
        int[] calls = {0, 0, 0, 0, 0, 2};
        int[] kinds = {2, 2, 2, 0, 0, 0};
        int[] places = {0, 0, 0, 2, 2, 0};
        for (int watch = 0; watch < 6; watch++) {
            DUE.is("calls of " + watch, x.told(watch, 0), calls[watch]);
            DUE.is("faults by KIND of " + watch, x.told(watch, 1), kinds[watch]);
            DUE.is("faults by PLACE of " + watch, x.told(watch, 2), places[watch]);
        }
        DUE.is("these are no call's faults", x.fault(), 0);
        DUE.is("these are not counted", x.count(3) + x.count(4), 0);
        x.watch(2, 2, 0, 5);
        x.watch(3, 2, 0, 5);
        DUE.is("its counts are 0", x.told(2, 1), 0);
        DUE.is("its counts are 0", x.told(3, 2), 0);
    }

    private static void limits() {
        int most = Integer.MAX_VALUE;
        long[][] rows = {{6, most, most, 0}, {6, most + 1L, most, 1}, {7, most, most, 1}, {8, most, most, 0},
            {6, Long.MIN_VALUE, Integer.MIN_VALUE, 0}, {8, Integer.MIN_VALUE, Integer.MIN_VALUE, 0},
            {5, Integer.MIN_VALUE + 1, Integer.MIN_VALUE, 1}, {3, -1, 65534, 1}, {3, -1, 65535, 0}, {2, 200, 0, 0}};
        for (long[] row : rows) {
            DoseRacks x = new DoseRacks();
            x.tray(0, (int) row[0], 1);
            x.fill(0, 0, (int) row[0], row[1]);
            x.watch(0, 0, 0, (int) row[2]);
            DUE.is("kind " + row[0] + " of " + row[1] + " above " + row[2], x.patrol(), row[3]);
        }
    }

    private static void faults() {
        DoseRacks x = new DoseRacks();
        DUE.is("none so far", x.fault(), 0);
        x.length(0);
        DUE.is("NULL", x.fault(), 1);
        x.tray(0, 5, 1);
        x.ask(0, 1, 5);
        DUE.is("PLACE", x.fault(), 3);
        x.ask(0, 0, 4);
        DUE.is("KIND", x.fault(), 2);
        x.ask(0, 0, 5);
        x.ask(10, 0, 5);
        x.think(0, 5);
        x.undo();
        DUE.is("the latest call that had one", x.fault(), 2);
    }

    private static void counts() {
        DoseRacks x = new DoseRacks();
        x.tray(0, 5, 2);
        x.tray(1, 5, 1);
        x.vial(2, true, 1);
        x.length(9);
        x.length(2);
        x.length(2);
        x.lift(0, 2);
        x.lift(0, 3);
        x.lift(0, 4);
        x.fill(0, 0, 5, 1);
        x.pour(0, 1, 5);
        x.pour(1, 0, 5);
        x.undo();
        int[] want = {2, 1, 1, 2, 3, 2, 2};
        for (int what = 0; what < want.length; what++) {
            DUE.is("count(" + what + ")", x.count(what), want[what]);
        }
        DUE.is("count(-1)", x.count(-1), DoseRacks.OUTSIDE);
        DUE.is("count(7)", x.count(7), DoseRacks.OUTSIDE);
        DUE.is("count() has no fault", x.fault(), 3);
    }
}
