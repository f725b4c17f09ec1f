/** Promises 12 to 19 at their edges: NOTHING, the very same THING in several places, NUMBERS that are TOLD alike. */
public final class HandEdgesTest {
    private static final Due DUE = new Due("HandEdgesTest");
    private static final long LOST = DoseRacks.LOST;

    public static void main(String[] args) {
        nothingInHand();
        liftOfNothing();
        liftedNumberIsItsOwn();
        liftOfFirstAndLast();
        traysAreAllEleven();
        endsOfMarks();
        ampoulesAreVialsToo();
        nothingMayBeLaid();
        intTraysAloneAreLaid();
        sameThingInSeveralPlaces();
        trayReachedByItsCell();
        numbersToldAlike();
        numbersOfTwoKinds();
        likenessOfThings();
        setAndTakeNothing();
        DUE.end();
    }

    private static void nothingInHand() {
        DoseRacks x = new DoseRacks();
        x.think(5, 1);
        DUE.is("take of NOTHING", x.take(4), 1);
        DUE.is("hand()", x.hand(), 0);
        DUE.is("value()", x.value(), LOST);
        DUE.is("alike with NOTHING", x.alike(4), 1);
        x.vial(4, false, 1);
        DUE.is("alike with a VIAL", x.alike(4), 0);
        DUE.is("LOST of value() is no fault", x.fault(), 0);
    }

    private static void liftOfNothing() {
        for (int kind = 9; kind <= 11; kind++) {
            DoseRacks x = new DoseRacks();
            x.tray(0, kind, 2);
            x.think(5, 1);
            DUE.is("lift of NOTHING from kind " + kind, x.lift(0, 1), 0);
            DUE.is("hand()", x.hand(), 0);
            DUE.is("value()", x.value(), LOST);
            DUE.is("alike with NOTHING", x.alike(9), 1);
            DUE.is("no fault", x.fault(), 0);
        }
    }

    private static void liftedNumberIsItsOwn() {
        for (int kind = 1; kind <= 8; kind++) {
            DoseRacks x = new DoseRacks();
            x.tray(0, kind, 1);
            x.fill(0, 0, kind, 1);
            DUE.is("lift of kind " + kind, x.lift(0, 0), kind);
            long lifted = x.value();
            x.set(1);
            x.fill(0, 0, kind, 0);
            DUE.is("THE HAND has what the cell had", x.value(), lifted);
            DUE.is("the RACK has it, too", x.alike(1), 1);
            x.undo();
            x.undo();
            DUE.is("undo() leaves THE HAND", x.value(), lifted);
        }
    }

    private static void liftOfFirstAndLast() {
        DoseRacks x = new DoseRacks();
        x.tray(0, 6, 12);
        x.fill(0, 0, 6, Long.MAX_VALUE);
        x.fill(0, 11, 6, Long.MIN_VALUE);
        DUE.is("lift of the first", x.lift(0, 0), 6);
        DUE.is("value()", x.value(), Long.MAX_VALUE);
        DUE.is("lift of the last", x.lift(0, 11), 6);
        DUE.is("value()", x.value(), Long.MIN_VALUE);
        DUE.is("one too far", x.lift(0, 12), -13);
        DUE.is("one too small", x.lift(0, -1), -13);
        DUE.is("THE HAND is as it was", x.hand(), 6);
    }

    private static void traysAreAllEleven() {
        for (int kind = 1; kind <= 11; kind++) {
            for (int n = 0; n <= 12; n += 12) {
                DoseRacks x = new DoseRacks();
                x.tray(0, kind, n);
                x.take(0);
                DUE.is("hand() of kind " + kind, x.hand(), 11);
                DUE.is("value() of " + n + " cells of kind " + kind, x.value(), n);
            }
        }
    }

    private static void endsOfMarks() {
        int[] marks = {Integer.MIN_VALUE, -1, 0, 1, Integer.MAX_VALUE};
        for (int mark : marks) {
            DoseRacks x = new DoseRacks();
            DUE.is("the first VIAL", x.vial(0, false, mark), 1);
            DUE.is("then an AMPOULE", x.vial(1, true, mark), 2);
            x.take(0);
            DUE.is("hand()", x.hand(), 9);
            DUE.is("the MARK", x.value(), mark);
            DUE.is("not the same as the AMPOULE", x.alike(1), 0);
            x.take(1);
            DUE.is("hand()", x.hand(), 10);
            DUE.is("the MARK", x.value(), mark);
        }
    }

    private static void ampoulesAreVialsToo() {
        DoseRacks x = new DoseRacks();
        x.tray(0, 9, 1);
        x.tray(1, 10, 1);
        x.vial(2, false, 1);
        x.vial(3, true, 2);
        x.take(3);
        DUE.is("an AMPOULE among VIALS", x.lay(0, 0), 1);
        DUE.is("an AMPOULE among AMPOULES", x.lay(1, 0), 1);
        DUE.is("lifted it is an AMPOULE", x.lift(0, 0), 10);
        x.take(2);
        DUE.is("a VIAL among AMPOULES", x.lay(1, 0), -12);
        DUE.is("the AMPOULE is still there", x.lift(1, 0), 10);
        x.take(2);
        DUE.is("a VIAL among VIALS", x.lay(0, 0), 1);
        DUE.is("lifted it is a VIAL", x.lift(0, 0), 9);
    }

    private static void nothingMayBeLaid() {
        for (int kind = 1; kind <= 11; kind++) {
            DoseRacks x = new DoseRacks();
            x.tray(0, kind, 1);
            DUE.is("NOTHING into kind " + kind, x.lay(0, 0), kind < 9 ? -12 : 1);
            DUE.is("NOTHING into kind " + kind + ", one too far", x.lay(0, 1), kind < 9 ? -12 : -13);
            DUE.is("NOTHING into kind " + kind + ", one too small", x.lay(0, -1), kind < 9 ? -12 : -13);
            x.tray(0, kind, 0);
            DUE.is("NOTHING into no cells of kind " + kind, x.lay(0, 0), kind < 9 ? -12 : -13);
        }
        DoseRacks x = new DoseRacks();
        x.tray(0, 9, 1);
        x.vial(1, false, 1);
        x.take(1);
        x.lay(0, 0);
        x.take(9);
        x.lay(0, 0);
        DUE.is("NOTHING is there then", x.lift(0, 0), 0);
        DUE.is("the VIAL is in its RACK", x.sort(1), 3);
    }

    private static void intTraysAloneAreLaid() {
        for (int kind = 1; kind <= 11; kind++) {
            for (int n = 0; n <= 12; n += 12) {
                DoseRacks x = new DoseRacks();
                x.tray(0, 11, 1);
                x.tray(1, kind, n);
                x.take(1);
                DUE.is("a TRAY of kind " + kind + " among TRAYS", x.lay(0, 0), kind == 5 ? 1 : -12);
                DUE.is("what is there", x.lift(0, 0), kind == 5 ? 11 : 0);
            }
        }
        DoseRacks x = new DoseRacks();
        x.tray(0, 11, 1);
        x.take(0);
        DUE.is("a TRAY into itself", x.lay(0, 0), -12);
    }

    private static void sameThingInSeveralPlaces() {
        DoseRacks x = new DoseRacks();
        x.tray(0, 5, 1);
        x.tray(1, 11, 3);
        x.tray(2, 11, 1);
        x.take(0);
        x.lay(1, 0);
        x.lay(1, 2);
        x.lay(2, 0);
        x.set(3);
        x.hold(4, 3);
        x.clear(0);
        int[][] cells = {{1, 0}, {1, 2}, {2, 0}};
        for (int[] cell : cells) {
            x.lift(cell[0], cell[1]);
            DUE.is("cell " + cell[1] + " of rack " + cell[0] + " has what rack 3 has", x.alike(3), 1);
            DUE.is("and rack 4", x.alike(4), 1);
            DUE.is("and rack 0 has NOTHING", x.alike(0), 0);
        }
        DUE.is("one was made with these", x.count(0), 3);
        x.fill(4, 0, 5, 77);
        x.lift(2, 0);
        x.set(5);
        DUE.is("what one place changes, all have", x.ask(5, 0, 5), 77);
        DUE.is("undo()", x.undo(), 0);
        DUE.is("what is undone in one, is in all", x.ask(3, 0, 5), 0);
    }

    private static void trayReachedByItsCell() {
        DoseRacks x = new DoseRacks();
        x.tray(0, 11, 1);
        x.tray(1, 5, 2);
        x.take(1);
        x.lay(0, 0);
        x.clear(1);
        x.lift(0, 0);
        x.set(2);
        DUE.is("fill of the TRAY in the cell", x.fill(2, 1, 2, -9), 1);
        x.lift(0, 0);
        x.set(3);
        DUE.is("it is there", x.ask(3, 1, 6), -9);
        DUE.is("watch over it", x.watch(0, 3, 1, -10), 1);
        x.clear(2);
        x.clear(3);
        DUE.is("patrol()", x.patrol(), 1);
    }

    /** KIND, two that it is made of, and whether they are TOLD alike. */
    private static final long[][] ALIKE = {
        {1, 1, 2, 1}, {1, 0, 1, 0}, {1, 256, -1, 1}, {2, 127, 383, 1}, {2, 128, -128, 1}, {2, 127, 128, 0},
        {3, -1, 65535, 1}, {3, 0, 65536, 1}, {3, 0, 65535, 0}, {4, 65535, -1, 1}, {4, 32768, 32767, 0},
        {5, 1L << 32, 0, 1}, {5, 1L << 31, Integer.MIN_VALUE, 1}, {5, 0, 1L << 31, 0},
        {6, 1L << 32, 0, 0}, {6, Long.MIN_VALUE, Long.MAX_VALUE, 0}, {6, Long.MIN_VALUE, Long.MIN_VALUE, 1},
        {6, (1L << 53) + 1, 1L << 53, 0}, {7, 16777217, 16777216, 1}, {7, 16777218, 16777216, 0},
        {7, Long.MAX_VALUE, Long.MAX_VALUE - 1000, 1}, {7, Long.MAX_VALUE, Long.MIN_VALUE, 0}, {7, 0, 0, 1},
        {8, (1L << 53) + 1, 1L << 53, 1}, {8, (1L << 53) + 2, 1L << 53, 0}, {8, 16777217, 16777216, 0}, {8, 5, -5, 0}};

    private static void numbersToldAlike() {
        for (long[] row : ALIKE) {
            DoseRacks x = new DoseRacks();
            int kind = (int) row[0];
            String what = "kind " + kind + " of " + row[1] + " and of " + row[2];
            x.think(kind, row[1]);
            x.set(0);
            x.think(kind, row[2]);
            DUE.is(what, x.alike(0), row[3]);
            x.tray(1, kind, 1);
            x.fill(1, 0, kind, row[2]);
            x.lift(1, 0);
            DUE.is(what + ", lifted", x.alike(0), row[3]);
        }
    }

    private static void numbersOfTwoKinds() {
        for (int kind = 1; kind <= 8; kind++) {
            for (int other = 1; other <= 8; other++) {
                for (int v = 0; v <= 1; v++) {
                    DoseRacks x = new DoseRacks();
                    x.think(kind, v);
                    x.set(0);
                    x.think(other, v);
                    DUE.is("kinds " + kind + ", " + other + " of " + v, x.alike(0), kind == other ? 1 : 0);
                }
            }
        }
    }

    /** Racks 0 to 5: NOTHING, two TRAYS, two VIALS, a NUMBER that is as much as the VIALS' MARK. */
    private static void likenessOfThings() {
        DoseRacks x = new DoseRacks();
        x.tray(1, 5, 2);
        x.tray(2, 5, 2);
        x.vial(3, false, 2);
        x.vial(4, false, 2);
        x.think(5, 2);
        x.set(5);
        for (int hand = 0; hand < 6; hand++) {
            x.take(hand);
            for (int rack = 0; rack < 6; rack++) {
                DUE.is("rack " + hand + " and rack " + rack, x.alike(rack), hand == rack ? 1 : 0);
            }
        }
        DUE.is("alike has no fault", x.fault(), 0);
    }

    private static void setAndTakeNothing() {
        DoseRacks x = new DoseRacks();
        x.vial(0, true, 3);
        DUE.is("set of NOTHING", x.set(0), 1);
        DUE.is("the RACK has NOTHING", x.sort(0), 0);
        DUE.is("hold of NOTHING", x.hold(1, 0), 1);
        DUE.is("the AMPOULE stays counted", x.count(1), 1);
    }
}
