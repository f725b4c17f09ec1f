/** Section 4 and promise 20 at their edges: "the latest 30 are kept", "NONE: there is none". */
public final class NotesEdgesTest {
    private static final Due DUE = new Due("NotesEdgesTest");

    public static void main(String[] args) {
        noneAtFirst();
        oneTooMany();
        pourThatIsTooMany();
        changesBehindAnUndo();
        undoneAndChangedAgain();
        refusedCallsNoteNothing();
        otherCallsNoteNothing();
        undoReachesTraysThatAreGone();
        undoGivesBackTheVerySame();
        undoOfNothing();
        undoIsNotNoted();
        DUE.end();
    }

    private static void noneAtFirst() {
        DoseRacks x = new DoseRacks();
        DUE.is("undo() at first", x.undo(), DoseRacks.NONE);
        DUE.is("undo() again", x.undo(), DoseRacks.NONE);
        DUE.is("no notes", x.count(5), 0);
        DUE.is("NONE is no fault", x.fault(), 0);
    }

    /** So many changes of one cell, each to its own number: what the cell has tells which are undone. */
    private static void oneTooMany() {
        for (int changes = 28; changes <= 62; changes++) {
            DoseRacks x = new DoseRacks();
            x.tray(0, 5, 3);
            for (int step = 1; step <= changes; step++) {
                x.fill(0, 2, 5, step);
            }
            int kept = Math.min(changes, 30);
            DUE.is("notes of " + changes, x.count(5), kept);
            for (int step = 1; step <= kept; step++) {
                DUE.is("undo " + step + " of " + changes, x.undo(), 2);
                DUE.is("the cell", x.ask(0, 2, 5), changes - step);
                DUE.is("notes left", x.count(5), kept - step);
            }
            DUE.is("none of " + changes + " is left", x.undo(), DoseRacks.NONE);
            DUE.is("the first ones stay", x.ask(0, 2, 5), changes - kept);
            DUE.is("none still", x.undo(), DoseRacks.NONE);
        }
    }

    private static void pourThatIsTooMany() {
        for (int ahead = 17; ahead <= 30; ahead++) {
            DoseRacks x = new DoseRacks();
            x.tray(0, 5, 12);
            x.tray(1, 5, 12);
            x.tray(2, 5, 1);
            for (int step = 1; step <= ahead; step++) {
                x.fill(2, 0, 5, step);
            }
            DUE.is("a pour behind " + ahead, x.pour(0, 1, 5), 12);
            DUE.is("notes", x.count(5), Math.min(30, ahead + 12));
            for (int i = 11; i >= 0; i--) {
                DUE.is("the last cell first", x.undo(), i);
            }
            int kept = Math.min(18, ahead);
            for (int step = 1; step <= kept; step++) {
                DUE.is("then the fills", x.undo(), 0);
                DUE.is("their cell", x.ask(2, 0, 5), ahead - step);
            }
            DUE.is("no more", x.undo(), DoseRacks.NONE);
        }
    }

    private static void changesBehindAnUndo() {
        for (int undone = 1; undone < 30; undone++) {
            DoseRacks x = new DoseRacks();
            x.tray(0, 6, 1);
            for (int step = 1; step <= 35; step++) {
                x.fill(0, 0, 6, step);
            }
            for (int step = 0; step < undone; step++) {
                x.undo();
            }
            for (int step = 1; step <= undone; step++) {
                x.fill(0, 0, 6, 100 + step);
            }
            DUE.is("as many again as were undone: " + undone, x.count(5), 30);
            x.fill(0, 0, 6, 200);
            DUE.is("one too many", x.count(5), 30);
            DUE.is("undo of it", x.undo(), 0);
            for (int step = undone; step >= 1; step--) {
                DUE.is("what is behind the undo", x.ask(0, 0, 6), 100 + step);
                DUE.is("undo", x.undo(), 0);
            }
            for (int step = 35 - undone; step > 6; step--) {
                DUE.is("what is ahead of the undo", x.ask(0, 0, 6), step);
                DUE.is("undo", x.undo(), 0);
            }
            DUE.is("the oldest made room", x.undo(), DoseRacks.NONE);
            DUE.is("it stays", x.ask(0, 0, 6), 6);
        }
    }

    private static void undoneAndChangedAgain() {
        DoseRacks x = new DoseRacks();
        x.tray(0, 2, 2);
        for (int step = 1; step <= 30; step++) {
            x.fill(0, 0, 2, step);
        }
        for (int step = 1; step <= 30; step++) {
            DUE.is("all are undone", x.undo(), 0);
        }
        for (int step = 0; step < 100; step++) {
            x.fill(0, 1, 2, step);
            DUE.is("one note", x.count(5), 1);
            DUE.is("undo", x.undo(), 1);
            DUE.is("what it had", x.ask(0, 1, 2), 0);
            DUE.is("none", x.undo(), DoseRacks.NONE);
        }
    }

    private static void refusedCallsNoteNothing() {
        DoseRacks x = new DoseRacks();
        x.tray(0, 5, 2);
        x.tray(1, 2, 2);
        x.fill(0, 1, 5, 50);
        x.fill(0, 2, 5, 1);
        x.fill(0, 1, 6, 1);
        x.fill(0, 1, 9, 1);
        x.fill(10, 1, 5, 1);
        x.lay(0, 1);
        x.think(8, 1);
        x.lay(0, 1);
        x.lay(0, 2);
        x.pour(0, 1, 5);
        x.pour(0, 9, 5);
        DUE.is("notes", x.count(5), 1);
        DUE.is("undo", x.undo(), 1);
        DUE.is("the cell", x.ask(0, 1, 5), 0);
        DUE.is("none", x.undo(), DoseRacks.NONE);
    }

    private static void otherCallsNoteNothing() {
        DoseRacks x = new DoseRacks();
        x.tray(0, 5, 2);
        x.vial(1, true, 1);
        x.hold(2, 1);
        x.clear(2);
        x.lift(0, 1);
        x.take(1);
        x.think(5, 9);
        x.set(3);
        x.watch(0, 0, 0, -1);
        x.patrol();
        x.ask(0, 0, 5);
        x.total(0, true);
        DUE.is("notes", x.count(5), 0);
        DUE.is("undo", x.undo(), DoseRacks.NONE);
        DUE.is("the rack that was cleared", x.sort(2), 0);
        DUE.is("the rack that was set", x.sort(3), 5);
        DUE.is("THE HAND", x.hand(), 5);
    }

    private static void undoReachesTraysThatAreGone() {
        DoseRacks x = new DoseRacks();
        x.tray(0, 5, 1);
        x.take(0);
        x.fill(0, 0, 5, 33);
        x.tray(0, 5, 1);
        x.fill(0, 0, 5, 44);
        DUE.is("undo in the new TRAY", x.undo(), 0);
        DUE.is("it", x.ask(0, 0, 5), 0);
        x.fill(0, 0, 5, 55);
        x.undo();
        DUE.is("undo in the TRAY that only THE HAND has", x.undo(), 0);
        x.set(1);
        DUE.is("that very one", x.ask(1, 0, 5), 0);
        x.fill(1, 0, 5, 66);
        x.think(1, 1);
        x.clear(1);
        DUE.is("undo in a TRAY that nobody has", x.undo(), 0);
        DUE.is("none", x.undo(), DoseRacks.NONE);
    }

    private static void undoGivesBackTheVerySame() {
        DoseRacks x = new DoseRacks();
        x.tray(0, 11, 1);
        x.tray(1, 5, 1);
        x.tray(2, 5, 1);
        x.take(1);
        x.lay(0, 0);
        x.take(2);
        x.lay(0, 0);
        x.fill(1, 0, 5, 12);
        DUE.is("undo of fill", x.undo(), 0);
        x.fill(1, 0, 5, 13);
        x.undo();
        DUE.is("undo of lay", x.undo(), 0);
        DUE.is("a TRAY is there", x.lift(0, 0), 11);
        DUE.is("the very same", x.alike(1), 1);
        DUE.is("no other", x.alike(2), 0);
    }

    private static void undoOfNothing() {
        DoseRacks x = new DoseRacks();
        x.tray(0, 10, 12);
        x.vial(1, true, 1);
        x.take(1);
        DUE.is("lay into the last cell", x.lay(0, 11), 1);
        DUE.is("undo", x.undo(), 11);
        DUE.is("NOTHING is there again", x.lift(0, 11), 0);
        DUE.is("lay of NOTHING", x.lay(0, 0), 1);
        DUE.is("undo of it", x.undo(), 0);
        DUE.is("NOTHING", x.lift(0, 0), 0);
    }

    private static void undoIsNotNoted() {
        DoseRacks x = new DoseRacks();
        x.tray(0, 5, 1);
        x.fill(0, 0, 5, 1);
        x.fill(0, 0, 5, 2);
        x.undo();
        DUE.is("it is gone", x.count(5), 1);
        x.undo();
        DUE.is("both are gone", x.count(5), 0);
        DUE.is("the cell", x.ask(0, 0, 5), 0);
    }
}
