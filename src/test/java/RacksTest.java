/** Promises 1 to 6: a new object, tray, vial, hold, clear, sort. */
public final class RacksTest {
    private static final Due DUE = new Due("RacksTest");

    public static void main(String[] args) {
        newObject();
        trays();
        mostTrays();
        vials();
        mostVials();
        holding();
        clearing();
        sorts();
        DUE.end();
    }

    private static void newObject() {
        DoseRacks x = new DoseRacks();
        for (int rack = 0; rack < 10; rack++) {
            DUE.is("new: sort(" + rack + ")", x.sort(rack), 0);
            DUE.is("new: alike(" + rack + ")", x.alike(rack), 1);
        }
        DUE.is("new: hand()", x.hand(), 0);
        DUE.is("new: value()", x.value(), DoseRacks.LOST);
        DUE.is("new: fault()", x.fault(), 0);
        DUE.is("new: undo()", x.undo(), DoseRacks.NONE);
        DUE.is("new: patrol()", x.patrol(), 0);
        for (int what = 0; what < 7; what++) {
            DUE.is("new: count(" + what + ")", x.count(what), 0);
        }
        for (int watch = 0; watch < 6; watch++) {
            DUE.is("new: told(" + watch + ", 0)", x.told(watch, 0), DoseRacks.NONE);
        }
    }

    private static void trays() {
        for (int kind = 1; kind <= 11; kind++) {
            for (int n = 0; n <= 12; n += 6) {
                DoseRacks x = new DoseRacks();
                String call = "tray(9, " + kind + ", " + n + ")";
                DUE.is(call, x.tray(9, kind, n), 1);
                DUE.is(call + " sort", x.sort(9), kind <= 8 ? 1 : 2);
                DUE.is(call + " length", x.length(9), n);
                for (int i = 0; i < n; i++) {
                    DUE.is(call + " lift " + i, x.lift(9, i), kind <= 8 ? kind : 0);
                    DUE.is(call + " value " + i, x.value(), kind <= 8 ? 0 : DoseRacks.LOST);
                }
                DUE.is(call + " lift past the end", x.lift(9, n), -13);
            }
        }
        DoseRacks x = new DoseRacks();
        x.vial(0, false, 1);
        DUE.is("tray(-1, 5, 1)", x.tray(-1, 5, 1), DoseRacks.UNKNOWN);
        DUE.is("tray(10, 5, 1)", x.tray(10, 5, 1), DoseRacks.UNKNOWN);
        DUE.is("tray(10, 0, 13)", x.tray(10, 0, 13), DoseRacks.UNKNOWN);
        DUE.is("tray(0, 0, 1)", x.tray(0, 0, 1), DoseRacks.OUTSIDE);
        DUE.is("tray(0, 12, 1)", x.tray(0, 12, 1), DoseRacks.OUTSIDE);
        DUE.is("tray(0, 5, -1)", x.tray(0, 5, -1), DoseRacks.OUTSIDE);
        DUE.is("tray(0, 9, 13)", x.tray(0, 9, 13), DoseRacks.OUTSIDE);
        DUE.is("tray(0, 5, MIN)", x.tray(0, 5, Integer.MIN_VALUE), DoseRacks.OUTSIDE);
        DUE.is("wrong trays leave the rack", x.sort(0), 3);
        DUE.is("wrong trays are not made", x.count(0), 0);
        DUE.is("wrong trays are no faults", x.fault(), 0);
    }

    private static void mostTrays() {
        DoseRacks x = new DoseRacks();
        for (int made = 1; made <= 40; made++) {
            DUE.is("tray " + made, x.tray(made % 10, 1 + made % 11, 1), 1);
            DUE.is("trays made", x.count(0), made);
        }
        x.clear(3);
        DUE.is("tray 41", x.tray(3, 5, 1), DoseRacks.FULL);
        DUE.is("tray 41 leaves the rack", x.sort(3), 0);
        DUE.is("tray 41 is not made", x.count(0), 40);
        DUE.is("OUTSIDE ahead of FULL", x.tray(3, 5, 13), DoseRacks.OUTSIDE);
        DUE.is("UNKNOWN ahead of FULL", x.tray(-1, 5, 1), DoseRacks.UNKNOWN);
        DUE.is("vials are counted apart", x.vial(3, true, 1), 1);
    }

    private static void vials() {
        DoseRacks x = new DoseRacks();
        DUE.is("vial(0, false, 7)", x.vial(0, false, 7), 1);
        DUE.is("vial(9, true, -8)", x.vial(9, true, -8), 2);
        DUE.is("sort(0)", x.sort(0), 3);
        DUE.is("sort(9)", x.sort(9), 4);
        x.take(0);
        DUE.is("a vial's mark", x.value(), 7);
        x.take(9);
        DUE.is("an ampoule's mark", x.value(), -8);
        DUE.is("vial(10, ..)", x.vial(10, false, 1), DoseRacks.UNKNOWN);
        DUE.is("vial(-1, ..)", x.vial(-1, true, 1), DoseRacks.UNKNOWN);
        DUE.is("unknown racks make none", x.count(1), 2);
    }

    private static void mostVials() {
        DoseRacks x = new DoseRacks();
        for (int made = 1; made <= 30; made++) {
            DUE.is("vial " + made, x.vial(made % 10, made % 2 == 0, made), made);
        }
        x.clear(4);
        DUE.is("vial 31", x.vial(4, false, 0), DoseRacks.FULL);
        DUE.is("ampoule 31", x.vial(4, true, 0), DoseRacks.FULL);
        DUE.is("vial 31 leaves the rack", x.sort(4), 0);
        DUE.is("vial 31 is not made", x.count(1), 30);
        DUE.is("UNKNOWN ahead of FULL", x.vial(10, false, 0), DoseRacks.UNKNOWN);
        DUE.is("trays are counted apart", x.tray(4, 1, 1), 1);
    }

    private static void holding() {
        DoseRacks x = new DoseRacks();
        x.tray(0, 5, 2);
        DUE.is("hold(1, 0)", x.hold(1, 0), 1);
        x.fill(1, 1, 5, 77);
        DUE.is("the very same tray", x.ask(0, 1, 5), 77);
        x.take(0);
        DUE.is("the very same thing", x.alike(1), 1);
        DUE.is("hold(1, 1)", x.hold(1, 1), 1);
        DUE.is("sort(1)", x.sort(1), 1);
        DUE.is("hold(1, 5) of NOTHING", x.hold(1, 5), 1);
        DUE.is("sort(1) then", x.sort(1), 0);
        DUE.is("the other keeps its own", x.sort(0), 1);
        DUE.is("hold(10, 0)", x.hold(10, 0), DoseRacks.UNKNOWN);
        DUE.is("hold(0, 10)", x.hold(0, 10), DoseRacks.UNKNOWN);
        DUE.is("hold(-1, 0)", x.hold(-1, 0), DoseRacks.UNKNOWN);
        DUE.is("hold(0, -1)", x.hold(0, -1), DoseRacks.UNKNOWN);
        DUE.is("sort(0) is as it was", x.sort(0), 1);
    }

    private static void clearing() {
        DoseRacks x = new DoseRacks();
        x.vial(0, false, 3);
        x.hold(1, 0);
        DUE.is("clear(0)", x.clear(0), 1);
        DUE.is("sort(0)", x.sort(0), 0);
        DUE.is("sort(1)", x.sort(1), 3);
        DUE.is("clear(0) again", x.clear(0), 1);
        DUE.is("clear(-1)", x.clear(-1), DoseRacks.UNKNOWN);
        DUE.is("clear(10)", x.clear(10), DoseRacks.UNKNOWN);
        DUE.is("what was made stays counted", x.count(1), 1);
    }

    private static void sorts() {
        DoseRacks x = new DoseRacks();
        x.tray(1, 1, 0);
        x.tray(2, 8, 1);
        x.tray(3, 9, 0);
        x.tray(4, 10, 1);
        x.tray(5, 11, 1);
        x.vial(6, false, 0);
        x.vial(7, true, 0);
        x.think(1, 0);
        x.set(8);
        int[] want = {0, 1, 1, 2, 2, 2, 3, 4, 5, 0};
        for (int rack = 0; rack < 10; rack++) {
            DUE.is("sort(" + rack + ")", x.sort(rack), want[rack]);
        }
        DUE.is("sort(-1)", x.sort(-1), DoseRacks.UNKNOWN);
        DUE.is("sort(10)", x.sort(10), DoseRacks.UNKNOWN);
        DUE.is("sort has no faults", x.fault(), 0);
    }
}
