/**
 * Where calls of several promises meet: a THING in several places at once, a change that is undone behind others and
 * behind clear(), hold(), set() of its RACK, a WATCH whose TRAY is in no RACK any more.
 */
public final class MeetingsTest {
    private static final Due DUE = new Due("MeetingsTest");
    private static final int NONE = DoseRacks.NONE;
    private static final long LOST = DoseRacks.LOST;

    public static void main(String[] args) {
        oneTrayInEveryPlace();
        trayThatOnlyANoteHas();
        oneVialInEveryPlace();
        oneNumberInEveryPlace();
        undoneInTheirOrder();
        undoneBehindWhatItsRackGets();
        undoneBehindARackThatHasItAgain();
        undoneWhileInHand();
        undoneUnderAWatch();
        watchOfATrayInNoRack();
        watchOfATrayThatOnlyItHas();
        refusedWatchStaysWithItsTray();
        pourOfATrayIntoItself();
        pourInAChain();
        numberInARackIsNoTray();
        emptyTrayInEveryPlace();
        fullAndStillInUse();
        countsOutliveTheirThings();
        DUE.end();
    }

    /** In RACKS 0, 1, 9, THE HAND, two cells, under WATCHES 0, 5, and in notes: as what is changed, and as what a cell had. */
    private static DoseRacks withTrayInEveryPlace() {
        DoseRacks x = new DoseRacks();
        x.tray(0, 5, 2);
        x.hold(1, 0);
        x.tray(2, 11, 3);
        x.tray(3, 5, 2);
        x.take(0);
        x.set(9);
        x.lay(2, 0);
        x.lay(2, 1);
        x.lay(2, 2);
        x.take(3);
        x.lay(2, 1);
        x.watch(0, 9, 1, 10);
        x.watch(5, 1, 1, 20);
        x.fill(0, 1, 5, 15);
        x.take(1);
        return x;
    }

    private static void oneTrayInEveryPlace() {
        DoseRacks x = withTrayInEveryPlace();
        for (int rack : new int[] {0, 1, 9}) {
            DUE.is("THE HAND has what rack " + rack + " has", x.alike(rack), 1);
            DUE.is("its cell by rack " + rack, x.ask(rack, 1, 5), 15);
        }
        DUE.is("not what rack 3 has", x.alike(3), 0);
        DUE.is("WATCH 0 calls, WATCH 5 does not", x.patrol(), 1);
        DUE.is("fill by another RACK", x.fill(9, 1, 4, 25), 1);
        DUE.is("both call", x.patrol(), 2);
        DUE.told(x, 0, "WATCH 0", 2, 0, 0, 10);
        DUE.told(x, 5, "WATCH 5", 1, 0, 0, 20);
        x.lift(2, 2);
        x.set(4);
        DUE.is("the same by its cell", x.ask(4, 1, 6), 25);
        DUE.is("it is in rack 1, too", x.alike(1), 1);
        x.lift(2, 1);
        DUE.is("another one was laid over it", x.alike(0), 0);
        DUE.is("that of rack 3", x.alike(3), 1);
        DUE.is("undo of the second fill", x.undo(), 1);
        DUE.is("by rack 0", x.ask(0, 1, 5), 15);
        DUE.is("by rack 4", x.ask(4, 1, 5), 15);
        DUE.is("undo of the first fill", x.undo(), 1);
        DUE.is("no WATCH calls", x.patrol(), 0);
        DUE.is("undo of what was laid over it", x.undo(), 1);
        x.lift(2, 1);
        DUE.is("it is there again", x.alike(9), 1);
        for (int i = 2; i >= 0; i--) {
            DUE.is("undo of lay", x.undo(), i);
            DUE.is("NOTHING is there", x.lift(2, i), 0);
        }
        DUE.is("none", x.undo(), NONE);
        DUE.is("the RACKS have it still", x.sort(0) + x.sort(1) + x.sort(9), 3);
    }

    private static void trayThatOnlyANoteHas() {
        DoseRacks x = withTrayInEveryPlace();
        for (int rack : new int[] {0, 1, 9}) {
            x.clear(rack);
        }
        x.take(0);
        x.lay(2, 0);
        x.lay(2, 2);
        DUE.is("its cell is 15 still, as WATCH 0 sees", x.patrol(), 1);
        DUE.is("undo", x.undo(), 2);
        DUE.is("it is back in its cell", x.lift(2, 2), 11);
        x.set(7);
        DUE.is("with what its cell had", x.ask(7, 1, 5), 15);
        x.fill(7, 1, 5, 30);
        DUE.is("and both WATCHES are over it", x.patrol(), 2);
        x.undo();
        DUE.is("undo of the other cell", x.undo(), 0);
        x.lift(2, 0);
        DUE.is("the very same", x.alike(7), 1);
    }

    private static void oneVialInEveryPlace() {
        DoseRacks x = new DoseRacks();
        x.vial(0, true, -6);
        x.vial(1, true, -6);
        x.tray(2, 9, 2);
        x.tray(3, 10, 2);
        x.hold(4, 0);
        x.take(0);
        DUE.is("among VIALS", x.lay(2, 1), 1);
        DUE.is("among AMPOULES", x.lay(3, 1), 1);
        DUE.is("twice", x.lay(3, 0), 1);
        x.watch(0, 2, 1, -100);
        x.watch(1, 3, 2, -100);
        DUE.is("a VIAL is no NUMBER", x.patrol(), 0);
        DUE.told(x, 0, "over a VIAL", 0, 1, 0, -100);
        DUE.told(x, 1, "over no cell of a TRAY of AMPOULES", 0, 1, 0, -100);
        x.take(1);
        x.lay(3, 0);
        x.clear(0);
        x.clear(4);
        x.clear(1);
        x.lift(2, 1);
        x.set(5);
        DUE.is("lifted as an AMPOULE", x.hand(), 10);
        DUE.is("its MARK", x.value(), -6);
        x.lift(3, 1);
        DUE.is("the same in both TRAYS", x.alike(5), 1);
        x.lift(3, 0);
        DUE.is("not the one with the same MARK", x.alike(5), 0);
        DUE.is("undo", x.undo(), 0);
        DUE.is("THE HAND keeps the other one", x.alike(5), 0);
        x.lift(3, 0);
        DUE.is("the cell has the first one again", x.alike(5), 1);
        x.undo();
        x.undo();
        DUE.is("undo of the first lay", x.undo(), 1);
        DUE.is("NOTHING among VIALS", x.lift(2, 1), 0);
        DUE.is("it is in rack 5 still", x.sort(5), 4);
        DUE.is("two were made", x.count(1), 2);
    }

    private static void oneNumberInEveryPlace() {
        DoseRacks x = new DoseRacks();
        x.tray(0, 5, 2);
        x.tray(1, 8, 2);
        x.fill(0, 1, 5, (1 << 24) + 1);
        DUE.is("lift", x.lift(0, 1), 5);
        x.set(2);
        x.hold(3, 2);
        DUE.is("lay into doubles", x.lay(1, 0), 1);
        DUE.is("lay into ints", x.lay(0, 0), 1);
        x.watch(0, 1, 0, 1 << 24);
        DUE.is("patrol()", x.patrol(), 1);
        DUE.is("the doubles have a double", x.lift(1, 0), 8);
        DUE.is("it is no int", x.alike(2), 0);
        x.take(3);
        DUE.is("the RACK has an int still", x.hand(), 5);
        x.fill(0, 1, 5, 8);
        x.fill(0, 0, 5, 9);
        DUE.is("no fill changes it in THE HAND", x.value(), (1 << 24) + 1);
        DUE.is("nor in a RACK", x.alike(2), 1);
        x.undo();
        x.undo();
        DUE.is("undo of lay into ints", x.undo(), 0);
        DUE.is("the cell", x.ask(0, 0, 5), 0);
        DUE.is("no undo changes it in THE HAND", x.value(), (1 << 24) + 1);
        DUE.is("undo of lay into doubles", x.undo(), 0);
        DUE.is("patrol() then", x.patrol(), 0);
        DUE.is("undo of the fill it was lifted behind", x.undo(), 1);
        x.lift(0, 1);
        DUE.is("the cell has another number", x.alike(3), 0);
        x.take(2);
        DUE.is("both RACKS have the number", x.alike(3), 1);
    }

    /** fill, lay and pour in turns on the cells of two TRAYS. */
    private static void undoneInTheirOrder() {
        DoseRacks x = new DoseRacks();
        x.tray(0, 5, 2);
        x.tray(1, 6, 3);
        x.fill(0, 0, 5, 1);
        x.fill(1, 0, 6, 2);
        x.think(5, 3);
        x.lay(0, 1);
        x.lay(1, 2);
        DUE.is("pour", x.pour(0, 1, 5), 2);
        x.fill(0, 0, 5, 4);
        x.lay(1, 0);
        DUE.is("notes", x.count(5), 8);
        DUE.is("all of it", x.total(0, false) * 100 + x.total(1, false), 709);
        int[][] dues = {{0, 707}, {0, 407}, {1, 404}, {0, 405}, {2, 402}, {1, 102}, {0, 100}, {0, 0}};
        for (int[] due : dues) {
            DUE.is("undo", x.undo(), due[0]);
            DUE.is("all of it behind undo", x.total(0, false) * 100 + x.total(1, false), due[1]);
        }
        DUE.is("none", x.undo(), NONE);
        DUE.is("what was poured stays counted", x.count(6), 2);
    }

    /** What the RACK gets behind the change, by the call's number here, is as it was behind the undo. */
    private static void undoneBehindWhatItsRackGets() {
        int[] sorts = {0, 3, 5, 0, 1, 4, 2};
        for (int way = 0; way < sorts.length; way++) {
            DoseRacks x = new DoseRacks();
            x.tray(0, 5, 1);
            x.hold(1, 0);
            x.vial(2, false, 1);
            x.fill(0, 0, 5, 70);
            replace(x, way);
            String what = "way " + way;
            DUE.is(what + ": notes", x.count(5), 1);
            DUE.is(what + ": undo", x.undo(), 0);
            DUE.is(what + ": the TRAY in another RACK", x.ask(1, 0, 5), 0);
            DUE.is(what + ": what its RACK has", x.sort(0), sorts[way]);
            DUE.is(what + ": a new TRAY's cell", x.ask(0, 0, 5), way == 4 ? 0 : LOST);
            DUE.is(what + ": none", x.undo(), NONE);
        }
    }

    private static void replace(DoseRacks x, int way) {
        switch (way) {
            case 0: x.clear(0); break;
            case 1: x.hold(0, 2); break;
            case 2:
                x.think(5, 9);
                x.set(0);
                break;
            case 3: x.hold(0, 9); break;
            case 4: x.tray(0, 5, 1); break;
            case 5: x.vial(0, true, 2); break;
            default: x.tray(0, 11, 1); break;
        }
    }

    private static void undoneBehindARackThatHasItAgain() {
        DoseRacks x = new DoseRacks();
        x.tray(0, 8, 1);
        x.take(0);
        x.fill(0, 0, 8, 5);
        x.clear(0);
        x.tray(0, 8, 1);
        x.fill(0, 0, 8, 6);
        x.set(0);
        DUE.is("the first one again", x.total(0, true), Double.doubleToRawLongBits(5.0));
        DUE.is("undo in the one that nobody has", x.undo(), 0);
        DUE.is("the first one is as it was", x.total(0, true), Double.doubleToRawLongBits(5.0));
        DUE.is("undo in the first one", x.undo(), 0);
        DUE.is("it has 0.0", x.total(0, true), 0);
        DUE.is("none", x.undo(), NONE);
    }

    private static void undoneWhileInHand() {
        DoseRacks x = new DoseRacks();
        x.tray(0, 11, 1);
        x.tray(1, 5, 1);
        x.take(1);
        x.lay(0, 0);
        x.fill(1, 0, 5, 3);
        x.clear(1);
        x.lift(0, 0);
        DUE.is("undo of fill", x.undo(), 0);
        DUE.is("undo of lay", x.undo(), 0);
        DUE.is("THE HAND has the TRAY still", x.hand(), 11);
        DUE.is("one cell", x.value(), 1);
        DUE.is("the cell has NOTHING", x.alike(1), 0);
        x.set(1);
        DUE.is("its own cell was undone, too", x.ask(1, 0, 5), 0);
        DUE.is("lay it again", x.lay(0, 0), 1);
        x.lift(0, 0);
        DUE.is("the very same", x.alike(1), 1);
    }

    private static void undoneUnderAWatch() {
        DoseRacks x = new DoseRacks();
        x.tray(0, 2, 2);
        x.watch(3, 0, 1, 4);
        x.watch(4, 0, 1, -1);
        for (int round = 1; round <= 5; round++) {
            x.fill(0, 1, 2, 5);
            DUE.is("above both LIMITS", x.patrol(), 2);
            x.undo();
            DUE.is("undone: above one", x.patrol(), 1);
            DUE.told(x, 3, "round " + round, round, 0, 0, 4);
            DUE.told(x, 4, "round " + round, 2 * round, 0, 0, -1);
        }
        x.watch(3, 0, 1, 4);
        DUE.told(x, 3, "begun again", 0, 0, 0, 4);
        DUE.told(x, 4, "the other one goes on", 10, 0, 0, -1);
    }

    private static void watchOfATrayInNoRack() {
        DoseRacks x = new DoseRacks();
        x.tray(0, 11, 1);
        x.tray(1, 5, 2);
        x.take(1);
        x.lay(0, 0);
        x.watch(0, 1, 0, 0);
        x.watch(1, 1, 2, 0);
        x.watch(2, 0, 0, 0);
        x.vial(1, false, 9);
        DUE.is("over 0", x.patrol(), 0);
        x.set(2);
        x.fill(2, 0, 5, 1);
        x.clear(2);
        DUE.is("over 1, in no RACK", x.patrol(), 1);
        x.take(9);
        x.clear(0);
        DUE.is("the TRAY that has it is in no RACK, either", x.patrol(), 1);
        DUE.told(x, 0, "the cell", 2, 0, 0, 0);
        DUE.told(x, 1, "no such cell", 0, 0, 3, 0);
        DUE.told(x, 2, "the cell that has it", 0, 3, 0, 0);
        DUE.is("no call's faults", x.fault(), 0);
    }

    private static void watchOfATrayThatOnlyItHas() {
        DoseRacks x = new DoseRacks();
        x.tray(0, 7, 1);
        x.fill(0, 0, 6, 8);
        x.watch(0, 0, 0, 7);
        x.tray(0, 7, 1);
        for (int step = 1; step <= 40; step++) {
            x.fill(0, 0, 2, step);
            DUE.is("that very one, not the new one", x.patrol(), 1);
        }
        DUE.is("the note of it made room", x.count(5), 30);
        for (int step = 0; step < 30; step++) {
            x.undo();
        }
        DUE.is("none is left for it", x.undo(), NONE);
        DUE.is("it calls still", x.patrol(), 1);
        DUE.told(x, 0, "all of them", 41, 0, 0, 7);
        x.watch(0, 0, 0, 9);
        DUE.is("over the new one, at 10", x.patrol(), 1);
        DUE.told(x, 0, "begun again", 1, 0, 0, 9);
    }

    private static void refusedWatchStaysWithItsTray() {
        DoseRacks x = new DoseRacks();
        x.tray(0, 6, 1);
        x.fill(0, 0, 6, 50);
        x.watch(2, 0, 0, 49);
        x.clear(0);
        x.patrol();
        DUE.is("NOTHING there any more", x.watch(2, 0, 0, 99), -11);
        x.vial(0, false, 60);
        DUE.is("a VIAL there now", x.watch(2, 0, 0, 99), -12);
        DUE.is("no such RACK", x.watch(2, 10, 0, 99), DoseRacks.UNKNOWN);
        DUE.is("it is over the same TRAY", x.patrol(), 1);
        DUE.told(x, 2, "as it was", 2, 0, 0, 49);
        x.undo();
        DUE.is("and sees it undone", x.patrol(), 0);
    }

    private static void pourOfATrayIntoItself() {
        for (int kind = 1; kind <= 8; kind++) {
            DoseRacks x = new DoseRacks();
            x.tray(0, kind, 3);
            x.hold(1, 0);
            for (int i = 0; i < 3; i++) {
                x.fill(0, i, kind, i);
            }
            x.lift(0, 2);
            x.set(5);
            DUE.is("kind " + kind + " into itself", x.pour(0, 1, kind), 3);
            DUE.is("by one RACK", x.pour(1, 1, kind), 3);
            DUE.is("poured", x.count(6), 6);
            for (int i = 2; i >= 0; i--) {
                DUE.is("undo", x.undo(), i);
            }
            x.lift(1, 2);
            DUE.is("the number is there", x.alike(5), 1);
            x.lift(1, 1);
            DUE.is("but in its own cell", x.alike(5), kind == 1 ? 1 : 0);
        }
    }

    /** A number that passes longs, floats and doubles is the nearest at each step; undo goes all the way back. */
    private static void pourInAChain() {
        DoseRacks x = new DoseRacks();
        long odd = (1L << 53) + (1L << 29) + 1;
        x.tray(0, 6, 1);
        x.tray(1, 7, 1);
        x.tray(2, 8, 1);
        x.fill(0, 0, 6, odd);
        DUE.is("longs into floats", x.pour(0, 1, 6), 1);
        DUE.is("floats into doubles", x.pour(1, 2, 8), 1);
        DUE.is("by a float", x.ask(2, 0, 8), Double.doubleToRawLongBits((double) (float) odd));
        DUE.is("longs into doubles", x.pour(0, 2, 8), 1);
        DUE.is("by a double", x.ask(2, 0, 8), Double.doubleToRawLongBits((double) odd));
        DUE.is("longs into doubles as floats", x.pour(0, 2, 7), 1);
        DUE.is("by a float again", x.ask(2, 0, 8), Double.doubleToRawLongBits((double) (float) odd));
        DUE.is("doubles do not go back", x.pour(2, 0, 8), -12);
        x.undo();
        DUE.is("undone once", x.ask(2, 0, 8), Double.doubleToRawLongBits((double) odd));
        x.undo();
        x.undo();
        DUE.is("undone thrice", x.ask(2, 0, 8), 0);
        DUE.is("the floats are as they were", x.ask(1, 0, 8), Double.doubleToRawLongBits((double) (float) odd));
        DUE.is("and so are the longs", x.ask(0, 0, 6), odd);
        DUE.is("poured", x.count(6), 4);
    }

    private static void numberInARackIsNoTray() {
        for (int kind = 1; kind <= 8; kind++) {
            DoseRacks x = new DoseRacks();
            x.tray(0, kind, 1);
            x.fill(0, 0, kind, 1);
            x.lift(0, 0);
            x.set(1);
            DUE.is("sort", x.sort(1), 5);
            DUE.is("length", x.length(1), -12);
            DUE.is("ask", x.ask(1, 0, kind), LOST);
            DUE.is("fill", x.fill(1, 0, kind, 0), -12);
            DUE.is("pour out", x.pour(1, 0, kind), -12);
            DUE.is("pour in", x.pour(0, 1, kind), -12);
            DUE.is("total", x.total(1, true), LOST);
            DUE.is("lift", x.lift(1, 0), -12);
            DUE.is("lay", x.lay(1, 0), -12);
            DUE.is("watch", x.watch(0, 1, 0, 0), -12);
            DUE.is("all of one kind", x.count(3), 9);
            DUE.is("THE HAND has it still", x.alike(1), 1);
            DUE.is("one note", x.count(5), 1);
            DUE.is("no WATCH", x.told(0, 0), NONE);
        }
    }

    private static void emptyTrayInEveryPlace() {
        DoseRacks x = new DoseRacks();
        x.tray(0, 5, 0);
        x.tray(1, 11, 1);
        x.take(0);
        DUE.is("lay it", x.lay(1, 0), 1);
        DUE.is("lift it", x.lift(1, 0), 11);
        DUE.is("no CELLS", x.value(), 0);
        DUE.is("the very same", x.alike(0), 1);
        DUE.is("watch over its cell 0", x.watch(0, 0, 0, 0), 1);
        DUE.is("into itself", x.pour(0, 0, 5), 0);
        DUE.is("total", x.total(0, true), 0);
        x.patrol();
        DUE.told(x, 0, "no such cell", 0, 0, 1, 0);
        x.tray(2, 5, 0);
        DUE.is("another one with no CELLS", x.alike(2), 0);
        DUE.is("one note", x.count(5), 1);
        DUE.is("no fault", x.fault(), 0);
    }

    private static void fullAndStillInUse() {
        DoseRacks x = new DoseRacks();
        for (int made = 1; made <= 40; made++) {
            x.tray(made % 4, made % 4 == 0 ? 11 : 5, 1);
        }
        for (int made = 1; made <= 30; made++) {
            x.vial(4 + made % 2, made % 2 == 0, made);
        }
        DUE.is("no TRAY more", x.tray(9, 5, 1), DoseRacks.FULL);
        DUE.is("no VIAL more", x.vial(9, true, 1), DoseRacks.FULL);
        DUE.is("rack 9 has NOTHING", x.sort(9), 0);
        DUE.is("fill", x.fill(1, 0, 5, 6), 1);
        DUE.is("pour", x.pour(1, 2, 5), 1);
        x.take(2);
        DUE.is("lay", x.lay(0, 0), 1);
        x.lift(0, 0);
        DUE.is("set", x.set(9), 1);
        DUE.is("what it has", x.ask(9, 0, 5), 6);
        x.take(5);
        DUE.is("the last VIAL but one", x.value(), 29);
        for (int rack = 0; rack < 10; rack++) {
            x.clear(rack);
        }
        DUE.is("ever made: FULL still", x.tray(0, 5, 1), DoseRacks.FULL);
        DUE.is("ever made: FULL still", x.vial(0, false, 1), DoseRacks.FULL);
        DUE.is("FULL is no fault", x.fault(), 0);
    }

    private static void countsOutliveTheirThings() {
        DoseRacks x = new DoseRacks();
        x.tray(0, 5, 2);
        x.tray(1, 5, 2);
        x.vial(2, true, 1);
        x.pour(0, 1, 5);
        x.ask(0, 2, 5);
        x.ask(2, 0, 5);
        x.ask(3, 0, 5);
        while (x.undo() != NONE) {
            DUE.is("fault() behind undo", x.fault(), 1);
        }
        for (int rack = 0; rack < 10; rack++) {
            x.clear(rack);
        }
        int[] want = {2, 1, 1, 1, 1, 0, 2};
        for (int what = 0; what < want.length; what++) {
            DUE.is("count(" + what + ")", x.count(what), want[what]);
        }
    }
}
