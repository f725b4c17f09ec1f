/** A busy object, and all that it tells of itself: two that tell the same are in the same state. */
final class Scene {
    // What its racks have.
    static final int NOTHING = 0, INTS = 1, VIALS = 2, VIAL = 3, AMPOULE = 4, NUMBER = 5, TRAYS = 6, NO_CELLS = 7,
        BYTES = 8, SAME_INTS = 9;
    static final int CELLS = 2;

    private Scene() { }

    /** Each rack has another thing, there are notes, faults and watches with counts; the hand has what a rack has. */
    static DoseRacks withHand(int rack) {
        DoseRacks x = new DoseRacks();
        x.tray(INTS, 5, CELLS);
        x.tray(VIALS, 9, CELLS);
        x.vial(VIAL, false, 31);
        x.vial(AMPOULE, true, 41);
        x.think(4, 7);
        x.set(NUMBER);
        x.tray(TRAYS, 11, CELLS);
        x.tray(NO_CELLS, 8, 0);
        x.tray(BYTES, 2, 1);
        x.hold(SAME_INTS, INTS);
        x.fill(INTS, 0, 5, 100);
        x.fill(BYTES, 0, 2, 8);
        x.take(VIAL);
        x.lay(VIALS, 1);
        x.take(INTS);
        x.lay(TRAYS, 0);
        x.pour(BYTES, INTS, 4);
        x.watch(0, INTS, 0, 3);
        x.watch(1, VIALS, 0, 3);
        x.watch(2, INTS, CELLS, 3);
        x.watch(5, BYTES, 0, -3);
        x.patrol();
        x.length(NOTHING);
        x.lift(INTS, -1);
        x.length(VIAL);
        x.take(rack);
        return x;
    }

    /** fault() and count() of faults: all that a FAULT may change. */
    static String faults(DoseRacks x) {
        return x.fault() + ": " + x.count(2) + " " + x.count(3) + " " + x.count(4);
    }

    /** All else; the object is used up by it: its hand, notes and watches are not as they were. */
    static String allElse(DoseRacks x) {
        StringBuilder all = new StringBuilder();
        all.append("made ").append(x.count(0)).append(' ').append(x.count(1));
        all.append(" notes ").append(x.count(5)).append(" poured ").append(x.count(6));
        tellWatches(x, all);
        all.append("\nhand ").append(x.hand()).append(' ').append(x.value());
        tellLikeness(x, 0, all);
        for (int rack = 0; rack < 10; rack++) {
            tellRack(x, rack, all);
        }
        all.append("\npatrol ").append(x.patrol());
        tellNotes(x, all);
        all.append("\npatrol ").append(x.patrol());
        tellWatches(x, all);
        return all.toString();
    }

    private static void tellWatches(DoseRacks x, StringBuilder all) {
        for (int watch = 0; watch < 6; watch++) {
            all.append("\nwatch");
            for (int what = 0; what < 4; what++) {
                all.append(' ').append(x.told(watch, what));
            }
        }
    }

    private static void tellLikeness(DoseRacks x, int first, StringBuilder all) {
        all.append(" alike ");
        for (int rack = first; rack < 10; rack++) {
            all.append(x.alike(rack));
        }
    }

    private static void tellRack(DoseRacks x, int rack, StringBuilder all) {
        int sort = x.sort(rack);
        x.take(rack);
        all.append("\nrack ").append(sort).append(' ').append(x.hand()).append(' ').append(x.value());
        tellLikeness(x, rack + 1, all);
        int cells = sort == 1 || sort == 2 ? x.length(rack) : 0;
        for (int i = 0; i < cells; i++) {
            int kind = x.lift(rack, i);
            all.append(" cell ").append(kind).append(' ').append(x.value());
            if (kind > 8) {
                tellLikeness(x, 0, all);
            }
        }
    }

    private static void tellNotes(DoseRacks x, StringBuilder all) {
        for (int place = x.undo(); place != DoseRacks.NONE; place = x.undo()) {
            all.append("\nundo ").append(place);
            for (int rack = 0; rack < 10; rack++) {
                if (x.lift(rack, place) >= 0) {
                    all.append(' ').append(x.hand()).append(' ').append(x.value());
                }
            }
        }
    }
}
