/** Promises 12 to 19: lift, take, think, lay, set, hand, value, alike. */
public final class HandTest {
    private static final Due DUE = new Due("HandTest");

    public static void main(String[] args) {
        lifts();
        liftFaults();
        takes();
        thinks();
        laysNumbers();
        laysThings();
        layFaults();
        sets();
        values();
        likeness();
        DUE.end();
    }

    private static void lifts() {
        DoseRacks x = new DoseRacks();
        for (int kind = 1; kind <= 8; kind++) {
            x.tray(0, kind, 2);
            x.fill(0, 1, kind, 1);
            DUE.is("lift of kind " + kind, x.lift(0, 1), kind);
            DUE.is("hand()", x.hand(), kind);
            DUE.is("value()", x.value(), kind < 7 ? 1 : Double.doubleToRawLongBits(1.0));
            x.fill(0, 1, kind, 0);
            DUE.is("the hand keeps it", x.value(), kind < 7 ? 1 : Double.doubleToRawLongBits(1.0));
            DUE.is("lift of the first", x.lift(0, 0), kind);
            DUE.is("value()", x.value(), 0);
        }
        x.tray(0, 9, 2);
        x.vial(1, false, 21);
        x.take(1);
        x.lay(0, 0);
        x.vial(2, true, 22);
        x.take(2);
        x.lay(0, 1);
        DUE.is("lift of a VIAL", x.lift(0, 0), 9);
        DUE.is("the very same", x.alike(1), 1);
        DUE.is("lift of an AMPOULE among VIALS", x.lift(0, 1), 10);
        DUE.is("the very same", x.alike(2), 1);
        x.tray(3, 11, 2);
        x.tray(4, 5, 7);
        x.take(4);
        x.lay(3, 1);
        DUE.is("lift of NOTHING", x.lift(3, 0), 0);
        DUE.is("value() of NOTHING", x.value(), DoseRacks.LOST);
        DUE.is("lift of a TRAY", x.lift(3, 1), 11);
        DUE.is("the very same", x.alike(4), 1);
        DUE.is("no fault so far", x.fault(), 0);
    }

    private static void liftFaults() {
        DoseRacks x = new DoseRacks();
        x.think(4, 8);
        DUE.is("lift(-1, 0)", x.lift(-1, 0), DoseRacks.UNKNOWN);
        DUE.is("lift(10, 0)", x.lift(10, 0), DoseRacks.UNKNOWN);
        DUE.is("no fault so far", x.fault(), 0);
        DUE.is("of NOTHING", x.lift(0, 5), -11);
        x.vial(0, false, 0);
        DUE.is("of a VIAL", x.lift(0, 5), -12);
        x.set(0);
        DUE.is("of a NUMBER", x.lift(0, 0), -12);
        for (int kind = 1; kind <= 11; kind += 5) {
            x.tray(0, kind, 2);
            DUE.is("no cell 2 of kind " + kind, x.lift(0, 2), -13);
            DUE.is("no cell -1 of kind " + kind, x.lift(0, -1), -13);
        }
        DUE.is("the hand is as it was", x.hand(), 4);
        DUE.is("its value, too", x.value(), 8);
        DUE.is("fault()", x.fault(), 3);
        DUE.is("count(4)", x.count(4), 6);
    }

    private static void takes() {
        DoseRacks x = new DoseRacks();
        x.tray(0, 1, 4);
        x.vial(1, true, -5);
        DUE.is("take(0)", x.take(0), 1);
        DUE.is("hand()", x.hand(), 11);
        DUE.is("the rack has it, too", x.sort(0), 1);
        DUE.is("take(1)", x.take(1), 1);
        DUE.is("hand()", x.hand(), 10);
        DUE.is("take(-1)", x.take(-1), DoseRacks.UNKNOWN);
        DUE.is("take(10)", x.take(10), DoseRacks.UNKNOWN);
        DUE.is("hand() is as it was", x.hand(), 10);
        DUE.is("take(9) of NOTHING", x.take(9), 1);
        DUE.is("hand()", x.hand(), 0);
    }

    private static void thinks() {
        DoseRacks x = new DoseRacks();
        long v = -(1L << 40) + 40000 - 1;
        long[] want = {0, 1, (byte) v, (char) v, (short) v, (int) v, v,
            Double.doubleToRawLongBits((float) v), Double.doubleToRawLongBits(v)};
        for (int kind = 1; kind <= 8; kind++) {
            DUE.is("think(" + kind + ", v)", x.think(kind, v), 1);
            DUE.is("hand()", x.hand(), kind);
            DUE.is("value() of kind " + kind, x.value(), want[kind]);
        }
        DUE.is("think(0, 1)", x.think(0, 1), DoseRacks.OUTSIDE);
        DUE.is("think(9, 1)", x.think(9, 1), DoseRacks.OUTSIDE);
        DUE.is("hand() is as it was", x.hand(), 8);
        DUE.is("value() is as it was", x.value(), want[8]);
        x.think(1, 0);
        DUE.is("a truth that is none", x.value(), 0);
        x.think(1, 256);
        DUE.is("a truth", x.value(), 1);
    }

    private static void laysNumbers() {
        String[] wider = {"", "1", "245678", "35678", "45678", "5678", "678", "78", "8"};
        for (int carried = 1; carried <= 8; carried++) {
            DoseRacks x = new DoseRacks();
            for (int kind = 1; kind <= 8; kind++) {
                x.tray(0, kind, 2);
                x.think(carried, 1);
                boolean let = wider[carried].indexOf('0' + kind) >= 0;
                String what = "lay of " + carried + " into kind " + kind;
                DUE.is(what, x.lay(0, 1), let ? 1 : -12);
                DUE.is(what + ", the hand", x.hand(), carried);
                DUE.is(what + ", the cell", x.ask(0, 1, kind),
                    !let ? 0 : kind < 7 ? 1 : Double.doubleToRawLongBits(1.0));
                DUE.is(what + ", lifted", x.lift(0, 1), kind);
            }
            DUE.is("notes", x.count(5), wider[carried].length());
            x.think(carried, 1);
            for (int kind = 9; kind <= 11; kind++) {
                x.tray(0, kind, 2);
                DUE.is("lay of a NUMBER into kind " + kind, x.lay(0, 1), -12);
            }
        }
    }

    private static void laysThings() {
        DoseRacks x = new DoseRacks();
        x.vial(1, false, 1);
        x.vial(2, true, 2);
        x.tray(3, 5, 1);
        x.tray(4, 6, 1);
        x.tray(5, 9, 1);
        x.tray(6, 10, 1);
        x.tray(7, 11, 1);
        x.clear(8);
        // by rack that is taken: whether kinds 9, 10, 11 accept it
        String[] let = {"", "100", "110", "001", "000", "000", "000", "000", "111"};
        for (int rack = 1; rack <= 8; rack++) {
            x.take(rack);
            for (int kind = 9; kind <= 11; kind++) {
                boolean lets = let[rack].charAt(kind - 9) == '1';
                String what = "lay of rack " + rack + " into kind " + kind;
                x.clear(9);
                x.hold(9, kind - 4);
                DUE.is(what, x.lay(9, 0), lets ? 1 : -12);
                DUE.is(what + ", no cell", x.lay(9, 1), -13);
            }
            DUE.is("lay of rack " + rack + " into kind 5", x.lay(3, 0), -12);
            DUE.is("lay of rack " + rack + " into kind 5, no cell", x.lay(3, 1), rack == 8 ? -12 : -13);
        }
        DUE.is("NOTHING is there then", x.lift(5, 0), 0);
        DUE.is("NOTHING is there then", x.lift(6, 0), 0);
        DUE.is("NOTHING is there then", x.lift(7, 0), 0);
        x.take(3);
        x.lay(7, 0);
        x.fill(3, 0, 5, 99);
        x.lift(7, 0);
        x.set(0);
        DUE.is("the very same TRAY is laid", x.ask(0, 0, 5), 99);
    }

    private static void layFaults() {
        DoseRacks x = new DoseRacks();
        DUE.is("lay(-1, 0)", x.lay(-1, 0), DoseRacks.UNKNOWN);
        DUE.is("lay(10, 0)", x.lay(10, 0), DoseRacks.UNKNOWN);
        DUE.is("no fault so far", x.fault(), 0);
        DUE.is("into NOTHING", x.lay(0, 0), -11);
        x.vial(0, false, 1);
        DUE.is("into a VIAL", x.lay(0, 9), -12);
        x.think(5, 1);
        x.set(1);
        DUE.is("into a NUMBER", x.lay(1, 0), -12);
        x.tray(2, 5, 1);
        x.think(8, 1);
        DUE.is("PLACE ahead of KIND", x.lay(2, 1), -13);
        DUE.is("PLACE ahead of KIND", x.lay(2, -1), -13);
        DUE.is("KIND", x.lay(2, 0), -12);
        x.take(0);
        DUE.is("PLACE ahead of no NUMBER", x.lay(2, 1), -13);
        DUE.is("no NUMBER", x.lay(2, 0), -12);
        x.take(9);
        DUE.is("NOTHING ahead of PLACE", x.lay(2, 1), -12);
        DUE.is("NOTHING", x.lay(2, 0), -12);
        x.tray(3, 11, 1);
        DUE.is("NOTHING, no cell", x.lay(3, 1), -13);
        DUE.is("faults note nothing", x.count(5), 0);
        DUE.is("faults by NULL", x.count(2), 1);
        DUE.is("faults by KIND", x.count(3), 6);
        DUE.is("faults by PLACE", x.count(4), 4);
        DUE.is("NOTHING is laid", x.lay(3, 0), 1);
        DUE.is("fault() is the latest one", x.fault(), 3);
    }

    private static void sets() {
        DoseRacks x = new DoseRacks();
        x.think(3, 65);
        DUE.is("set(0)", x.set(0), 1);
        DUE.is("sort(0)", x.sort(0), 5);
        DUE.is("the hand has it, too", x.value(), 65);
        x.take(5);
        DUE.is("set(0) of NOTHING", x.set(0), 1);
        DUE.is("sort(0)", x.sort(0), 0);
        DUE.is("set(-1)", x.set(-1), DoseRacks.UNKNOWN);
        DUE.is("set(10)", x.set(10), DoseRacks.UNKNOWN);
        x.tray(1, 2, 3);
        x.take(1);
        x.set(2);
        x.fill(2, 0, 2, 6);
        DUE.is("the very same", x.ask(1, 0, 2), 6);
    }

    private static void values() {
        DoseRacks x = new DoseRacks();
        for (int kind = 1; kind <= 11; kind++) {
            x.tray(0, kind, kind);
            x.take(0);
            DUE.is("hand() of a TRAY of kind " + kind, x.hand(), 11);
            DUE.is("value() of a TRAY of kind " + kind, x.value(), kind);
        }
        x.vial(0, false, Integer.MIN_VALUE);
        x.take(0);
        DUE.is("hand() of a VIAL", x.hand(), 9);
        DUE.is("value() of a VIAL", x.value(), Integer.MIN_VALUE);
        x.vial(0, true, Integer.MAX_VALUE);
        x.take(0);
        DUE.is("hand() of an AMPOULE", x.hand(), 10);
        DUE.is("value() of an AMPOULE", x.value(), Integer.MAX_VALUE);
        x.take(1);
        DUE.is("hand() of NOTHING", x.hand(), 0);
        DUE.is("value() of NOTHING", x.value(), DoseRacks.LOST);
        DUE.is("value() has no fault", x.fault(), 0);
    }

    private static void likeness() {
        DoseRacks x = new DoseRacks();
        for (int kind = 1; kind <= 8; kind++) {
            x.think(kind, 1);
            x.set(0);
            for (int other = 1; other <= 8; other++) {
                x.think(other, 1);
                DUE.is("alike: kinds " + kind + ", " + other, x.alike(0), kind == other ? 1 : 0);
            }
            x.think(kind, 0);
            DUE.is("alike: another NUMBER of kind " + kind, x.alike(0), 0);
        }
        x.think(2, 256 + 7);
        x.set(0);
        x.think(2, 7);
        DUE.is("alike: TOLD alike", x.alike(0), 1);
        DUE.is("alike: NUMBER and NOTHING", x.alike(9), 0);
        x.vial(1, false, 7);
        x.vial(2, false, 7);
        DUE.is("alike: NUMBER and VIAL", x.alike(1), 0);
        x.take(1);
        DUE.is("alike: the very same VIAL", x.alike(1), 1);
        DUE.is("alike: a VIAL of the same MARK", x.alike(2), 0);
        DUE.is("alike: VIAL and NUMBER", x.alike(0), 0);
        DUE.is("alike: VIAL and NOTHING", x.alike(9), 0);
        x.tray(3, 5, 1);
        x.tray(4, 5, 1);
        x.take(3);
        DUE.is("alike: the very same TRAY", x.alike(3), 1);
        DUE.is("alike: another TRAY", x.alike(4), 0);
        x.take(9);
        DUE.is("alike: both NOTHING", x.alike(8), 1);
        DUE.is("alike: NOTHING and TRAY", x.alike(3), 0);
        DUE.is("alike: NOTHING and NUMBER", x.alike(0), 0);
        DUE.is("alike(-1)", x.alike(-1), DoseRacks.UNKNOWN);
        DUE.is("alike(10)", x.alike(10), DoseRacks.UNKNOWN);
    }
}
