/**
 * Section 2: "Ahead of them, the first that fits: UNKNOWN (no such RACK, WATCH), OUTSIDE (a number is not as told),
 * FULL"; a call that is refused "changes nothing (but as told, and fault(), count())".
 */
public final class RefusedTest {
    private static final Due DUE = new Due("RefusedTest");
    private static final int[] NO_RACKS = {Integer.MIN_VALUE, -1, 10, Integer.MAX_VALUE};
    private static final int[] NO_WATCHES = {Integer.MIN_VALUE, -1, 6, Integer.MAX_VALUE};
    private static final int[] NO_NUMBER_KINDS = {Integer.MIN_VALUE, -1, 0, 9, 10, 11, 12, Integer.MAX_VALUE};
    private static final int[] HANDS = {Scene.NOTHING, Scene.INTS, Scene.VIALS, Scene.VIAL, Scene.NUMBER};
    private static final long LOST = DoseRacks.LOST;

    private interface Call {
        long on(DoseRacks x);
    }

    public static void main(String[] args) {
        scenesTellAll();
        unknownRacks();
        unknownWatches();
        firstAndLastRack();
        firstAndLastWatch();
        outsideKinds();
        firstAndLastKind();
        outsideTrays();
        outsideWhats();
        fullTrays();
        fullVials();
        lengthFaults();
        askFaults();
        fillFaults();
        pourFaults();
        totalFaults();
        liftAndWatchFaults();
        layFaults();
        DUE.end();
    }

    /** The call is refused with an answer and a FAULT (0: none), and all else is as it was, whatever the hand has. */
    private static void refused(String said, Call call, long answer, int fault) {
        for (int hand : HANDS) {
            refusedWithHand(hand, said, call, answer, fault);
        }
    }

    private static void refusedWithHand(int hand, String said, Call call, long answer, int fault) {
        DoseRacks asked = Scene.withHand(hand);
        DoseRacks left = Scene.withHand(hand);
        String what = said + " (hand as rack " + hand + ")";
        DUE.is(what, call.on(asked), answer);
        // Each fault stood once, and the latest was by KIND, when the scene began.
        String want = fault == 0 ? "2: 1 1 1"
            : fault + ": " + (fault == 1 ? 2 : 1) + " " + (fault == 2 ? 2 : 1) + " " + (fault == 3 ? 2 : 1);
        String faults = Scene.faults(asked);
        DUE.holds(what + " leaves faults " + faults + ", due are " + want, faults.equals(want));
        DUE.holds(what + " changes nothing", Scene.allElse(asked).equals(Scene.allElse(left)));
    }

    private static void fault(String said, Call call, int fault) {
        refused(said, call, -10 - fault, fault);
    }

    private static void lost(String said, Call call, int fault) {
        refused(said, call, LOST, fault);
    }

    /** What the other tests lean on: a change of any sort shows in what a scene tells. */
    private static void scenesTellAll() {
        Call[] changes = {x -> x.fill(1, 0, 5, 9), x -> x.fill(1, 1, 5, 0), x -> x.tray(0, 5, 0), x -> x.tray(1, 5, 2),
            x -> x.vial(3, false, 31), x -> x.hold(9, 8), x -> x.clear(9), x -> x.take(3), x -> x.think(4, 8),
            x -> x.lay(1, 1), x -> x.set(0), x -> x.undo(), x -> x.watch(0, 1, 0, 3), x -> x.watch(3, 1, 0, 3),
            x -> x.watch(5, 8, 1, -3), x -> x.patrol(), x -> x.pour(7, 7, 8) + x.pour(8, 8, 2)};
        String still = Scene.allElse(Scene.withHand(Scene.NUMBER));
        for (int change = 0; change < changes.length; change++) {
            DoseRacks x = Scene.withHand(Scene.NUMBER);
            changes[change].on(x);
            DUE.holds("change " + change + " is told", !Scene.allElse(x).equals(still));
        }
    }

    // ---- UNKNOWN

    private static void unknownRacks() {
        for (int no : NO_RACKS) {
            String r = "rack " + no + ": ";
            unknown(r + "tray", x -> x.tray(no, 5, 1));
            unknown(r + "tray, OUTSIDE too", x -> x.tray(no, 0, 13));
            unknown(r + "vial", x -> x.vial(no, true, 1));
            unknown(r + "hold", x -> x.hold(no, Scene.INTS));
            unknown(r + "hold from", x -> x.hold(Scene.INTS, no));
            unknown(r + "hold of itself", x -> x.hold(no, no));
            unknown(r + "clear", x -> x.clear(no));
            unknown(r + "sort", x -> x.sort(no));
            unknown(r + "length", x -> x.length(no));
            lost(r + "ask", x -> x.ask(no, 0, 5), 0);
            lost(r + "ask, OUTSIDE too", x -> x.ask(no, -1, 9), 0);
            unknown(r + "fill", x -> x.fill(no, 0, 5, 1));
            unknown(r + "fill, OUTSIDE too", x -> x.fill(no, -1, 0, 1));
            unknown(r + "pour from", x -> x.pour(no, Scene.INTS, 5));
            unknown(r + "pour to", x -> x.pour(Scene.INTS, no, 5));
            unknown(r + "pour from, to NOTHING", x -> x.pour(no, Scene.NOTHING, 5));
            unknown(r + "pour to, from NOTHING", x -> x.pour(Scene.NOTHING, no, 5));
            unknown(r + "pour to, OUTSIDE too", x -> x.pour(Scene.INTS, no, 9));
            lost(r + "total", x -> x.total(no, false), 0);
            lost(r + "real total", x -> x.total(no, true), 0);
            unknown(r + "lift", x -> x.lift(no, 0));
            unknown(r + "take", x -> x.take(no));
            unknown(r + "lay", x -> x.lay(no, 0));
            unknown(r + "set", x -> x.set(no));
            unknown(r + "alike", x -> x.alike(no));
            unknown(r + "watch", x -> x.watch(0, no, 0, 0));
            unknown(r + "watch, no WATCH too", x -> x.watch(6, no, 0, 0));
        }
    }

    private static void unknown(String said, Call call) {
        refused(said, call, DoseRacks.UNKNOWN, 0);
    }

    private static void unknownWatches() {
        for (int no : NO_WATCHES) {
            String w = "watch " + no + ": ";
            unknown(w + "watch", x -> x.watch(no, Scene.INTS, 0, 0));
            unknown(w + "watch ahead of NULL", x -> x.watch(no, Scene.NOTHING, 0, 0));
            unknown(w + "watch ahead of KIND", x -> x.watch(no, Scene.VIAL, 0, 0));
            unknown(w + "told", x -> x.told(no, 0));
            unknown(w + "told ahead of OUTSIDE", x -> x.told(no, 4));
            unknown(w + "told ahead of OUTSIDE", x -> x.told(no, -1));
        }
    }

    private static void firstAndLastRack() {
        for (int rack = 0; rack < 10; rack += 9) {
            DoseRacks x = new DoseRacks();
            String r = "rack " + rack + ": ";
            DUE.is(r + "tray", x.tray(rack, 5, 2), 1);
            DUE.is(r + "fill", x.fill(rack, 1, 5, 6), 1);
            DUE.is(r + "ask", x.ask(rack, 1, 5), 6);
            DUE.is(r + "total", x.total(rack, false), 6);
            DUE.is(r + "length", x.length(rack), 2);
            DUE.is(r + "pour", x.pour(rack, rack, 5), 2);
            DUE.is(r + "lift", x.lift(rack, 1), 5);
            DUE.is(r + "lay", x.lay(rack, 0), 1);
            DUE.is(r + "watch", x.watch(0, rack, 0, 0), 1);
            DUE.is(r + "hold", x.hold(rack, rack), 1);
            DUE.is(r + "sort", x.sort(rack), 1);
            DUE.is(r + "take", x.take(rack), 1);
            DUE.is(r + "alike", x.alike(rack), 1);
            DUE.is(r + "vial", x.vial(rack, false, 1), 1);
            DUE.is(r + "set", x.set(rack), 1);
            DUE.is(r + "set, then ask", x.ask(rack, 0, 5), 6);
            DUE.is(r + "clear", x.clear(rack), 1);
            DUE.is(r + "the other end has NOTHING", x.sort(9 - rack), 0);
        }
    }

    private static void firstAndLastWatch() {
        DoseRacks x = Scene.withHand(Scene.NOTHING);
        DUE.is("watch 0", x.watch(0, Scene.INTS, 0, 70), 1);
        DUE.is("watch 5", x.watch(5, Scene.INTS, 0, 75), 1);
        DUE.is("told of 0", x.told(0, 3), 70);
        DUE.is("told of 5", x.told(5, 3), 75);
        DUE.is("told of 4", x.told(4, 3), DoseRacks.NONE);
    }

    // ---- OUTSIDE

    private static void outsideKinds() {
        for (int kind : NO_NUMBER_KINDS) {
            String k = "kind " + kind + ": ";
            for (int rack = 0; rack < 10; rack++) {
                int r = rack;
                lost(k + "ask of rack " + rack, x -> x.ask(r, 0, kind), 0);
                lost(k + "ask of rack " + rack + ", no cell", x -> x.ask(r, -1, kind), 0);
                outside(k + "fill of rack " + rack, x -> x.fill(r, 0, kind, 1));
                outside(k + "fill of rack " + rack + ", no cell", x -> x.fill(r, 99, kind, 1));
                outside(k + "pour from rack " + rack, x -> x.pour(r, Scene.INTS, kind));
                outside(k + "pour into rack " + rack, x -> x.pour(Scene.INTS, r, kind));
            }
            outside(k + "think", x -> x.think(kind, 1));
        }
    }

    private static void firstAndLastKind() {
        for (int kind = 1; kind <= 8; kind += 7) {
            DoseRacks x = new DoseRacks();
            String k = "kind " + kind + ": ";
            x.tray(0, kind, 1);
            DUE.is(k + "ask", x.ask(0, 0, kind), 0);
            DUE.is(k + "fill", x.fill(0, 0, kind, 1), 1);
            DUE.is(k + "pour", x.pour(0, 0, kind), 1);
            DUE.is(k + "think", x.think(kind, 1), 1);
            DUE.is(k + "hand", x.hand(), kind);
        }
    }

    private static void outside(String said, Call call) {
        refused(said, call, DoseRacks.OUTSIDE, 0);
    }

    private static void outsideTrays() {
        for (int kind : new int[] {Integer.MIN_VALUE, -1, 0, 12, 13, Integer.MAX_VALUE}) {
            outside("tray of kind " + kind, x -> x.tray(Scene.INTS, kind, 1));
            outside("tray of kind " + kind + ", no cells", x -> x.tray(Scene.NOTHING, kind, 0));
        }
        for (int n : new int[] {Integer.MIN_VALUE, -1, 13, Integer.MAX_VALUE}) {
            for (int kind = 1; kind <= 11; kind++) {
                int k = kind;
                outside("tray of kind " + kind + ", " + n + " cells", x -> x.tray(Scene.INTS, k, n));
            }
        }
        for (int kind = 1; kind <= 11; kind++) {
            DoseRacks x = new DoseRacks();
            DUE.is("the fewest cells of kind " + kind, x.tray(0, kind, 0), 1);
            DUE.is("its length", x.length(0), 0);
            DUE.is("the most cells of kind " + kind, x.tray(0, kind, 12), 1);
            DUE.is("its length", x.length(0), 12);
            DUE.is("its last cell", x.lift(0, 11), kind < 9 ? kind : 0);
        }
    }

    private static void outsideWhats() {
        for (int what : new int[] {Integer.MIN_VALUE, -1, 4, Integer.MAX_VALUE}) {
            outside("told(0, " + what + ")", x -> x.told(0, what));
            outside("told(3, " + what + ") of a WATCH over none", x -> x.told(3, what));
        }
        for (int what : new int[] {Integer.MIN_VALUE, -1, 7, Integer.MAX_VALUE}) {
            outside("count(" + what + ")", x -> x.count(what));
        }
    }

    // ---- FULL

    private static DoseRacks withAllTrays() {
        DoseRacks x = Scene.withHand(Scene.NUMBER);
        x.vial(Scene.NOTHING, true, 1);
        for (int made = x.count(0); made < 40; made++) {
            x.hold(8, 7);
            DUE.is("tray " + (made + 1), x.tray(7, 5, 1), 1);
        }
        x.clear(Scene.NOTHING);
        return x;
    }

    private static void fullTrays() {
        refusedAtFull(withAllTrays(), withAllTrays(), x -> x.tray(0, 5, 1), DoseRacks.FULL);
        refusedAtFull(withAllTrays(), withAllTrays(), x -> x.tray(9, 11, 0), DoseRacks.FULL);
        refusedAtFull(withAllTrays(), withAllTrays(), x -> x.tray(9, 1, 12), DoseRacks.FULL);
        refusedAtFull(withAllTrays(), withAllTrays(), x -> x.tray(9, 12, 1), DoseRacks.OUTSIDE);
        refusedAtFull(withAllTrays(), withAllTrays(), x -> x.tray(9, 5, 13), DoseRacks.OUTSIDE);
        refusedAtFull(withAllTrays(), withAllTrays(), x -> x.tray(10, 5, 1), DoseRacks.UNKNOWN);
        DoseRacks x = withAllTrays();
        DUE.is("vials are let", x.vial(0, false, 1), 4);
        for (int rack = 0; rack < 10; rack++) {
            x.clear(rack);
        }
        DUE.is("ever made: racks that are cleared make no room", x.tray(0, 5, 1), DoseRacks.FULL);
    }

    private static void refusedAtFull(DoseRacks asked, DoseRacks left, Call call, int answer) {
        DUE.is("a call when all are made", call.on(asked), answer);
        DUE.holds("it is no fault", Scene.faults(asked).equals(Scene.faults(left)));
        DUE.holds("it changes nothing", Scene.allElse(asked).equals(Scene.allElse(left)));
    }

    private static DoseRacks withAllVials() {
        DoseRacks x = Scene.withHand(Scene.NUMBER);
        for (int made = x.count(1); made < 30; made++) {
            DUE.is("vial " + (made + 1), x.vial(8, made % 2 == 0, made), made + 1);
        }
        return x;
    }

    private static void fullVials() {
        refusedAtFull(withAllVials(), withAllVials(), x -> x.vial(0, false, 1), DoseRacks.FULL);
        refusedAtFull(withAllVials(), withAllVials(), x -> x.vial(9, true, Integer.MIN_VALUE), DoseRacks.FULL);
        refusedAtFull(withAllVials(), withAllVials(), x -> x.vial(-1, false, 1), DoseRacks.UNKNOWN);
        DoseRacks x = withAllVials();
        DUE.is("trays are let", x.tray(0, 5, 1), 1);
        for (int rack = 0; rack < 10; rack++) {
            x.clear(rack);
        }
        DUE.is("ever made: racks that are cleared make no room", x.vial(0, false, 1), DoseRacks.FULL);
    }

    // ---- FAULTS, the first that fits in the order named

    private static void lengthFaults() {
        fault("length of NOTHING", x -> x.length(Scene.NOTHING), 1);
        fault("length of a VIAL", x -> x.length(Scene.VIAL), 2);
        fault("length of an AMPOULE", x -> x.length(Scene.AMPOULE), 2);
        fault("length of a NUMBER", x -> x.length(Scene.NUMBER), 2);
    }

    private static final int[] NO_PLACES = {Integer.MIN_VALUE, -1, Scene.CELLS, Scene.CELLS + 1, Integer.MAX_VALUE};
    private static final int[] NO_NUMBER_TRAYS = {Scene.VIAL, Scene.AMPOULE, Scene.NUMBER, Scene.VIALS, Scene.TRAYS};

    private static void askFaults() {
        lost("ask of NOTHING", x -> x.ask(Scene.NOTHING, 0, 5), 1);
        lost("ask as another KIND", x -> x.ask(Scene.INTS, 1, 4), 2);
        lost("ask of no cells", x -> x.ask(Scene.NO_CELLS, 0, 8), 3);
        lost("ask of no cells as another KIND", x -> x.ask(Scene.NO_CELLS, 0, 7), 3);
        for (int i : NO_PLACES) {
            lost("ask of NOTHING, cell " + i, x -> x.ask(Scene.NOTHING, i, 1), 1);
            lost("ask of cell " + i, x -> x.ask(Scene.INTS, i, 5), 3);
            lost("ask of cell " + i + " as another KIND", x -> x.ask(Scene.INTS, i, 1), 3);
            for (int rack : NO_NUMBER_TRAYS) {
                lost("ask of rack " + rack + ", cell " + i, x -> x.ask(rack, i, 5), 2);
            }
        }
        for (int rack : NO_NUMBER_TRAYS) {
            lost("ask of rack " + rack, x -> x.ask(rack, 1, 5), 2);
        }
    }

    private static void fillFaults() {
        fault("fill of NOTHING", x -> x.fill(Scene.NOTHING, 0, 5, 1), 1);
        fault("fill by another KIND", x -> x.fill(Scene.INTS, 1, 6, 1), 2);
        fault("fill of no cells", x -> x.fill(Scene.NO_CELLS, 0, 8, 1), 3);
        fault("fill of no cells by another KIND", x -> x.fill(Scene.NO_CELLS, 0, 1, 1), 3);
        for (int i : NO_PLACES) {
            fault("fill of NOTHING, cell " + i, x -> x.fill(Scene.NOTHING, i, 1, 1), 1);
            fault("fill of cell " + i, x -> x.fill(Scene.INTS, i, 5, 1), 3);
            fault("fill of cell " + i + " by another KIND", x -> x.fill(Scene.INTS, i, 8, 1), 3);
            for (int rack : NO_NUMBER_TRAYS) {
                fault("fill of rack " + rack + ", cell " + i, x -> x.fill(rack, i, 5, 1), 2);
            }
        }
        for (int rack : NO_NUMBER_TRAYS) {
            fault("fill of rack " + rack, x -> x.fill(rack, 1, 5, 1), 2);
        }
    }

    private static void pourFaults() {
        for (int rack = 0; rack < 10; rack++) {
            int r = rack;
            boolean tray = rack != Scene.VIAL && rack != Scene.AMPOULE && rack != Scene.NUMBER;
            fault("pour of NOTHING into rack " + rack, x -> x.pour(Scene.NOTHING, r, 5), 1);
            fault("pour of rack " + rack + " into NOTHING", x -> x.pour(r, Scene.NOTHING, 5), tray ? 1 : 2);
            if (rack != Scene.NOTHING) {
                for (int no : NO_NUMBER_TRAYS) {
                    fault("pour of rack " + rack + " into rack " + no, x -> x.pour(r, no, 5), 2);
                    fault("pour of rack " + no + " into rack " + rack, x -> x.pour(no, r, 5), 2);
                }
            }
        }
        fault("pour: ASKED as no such KIND", x -> x.pour(Scene.INTS, Scene.BYTES, 2), 2);
        fault("pour: FILLED by no such KIND", x -> x.pour(Scene.INTS, Scene.BYTES, 5), 2);
        fault("pour into itself, ASKED as a wider one", x -> x.pour(Scene.INTS, Scene.SAME_INTS, 6), 2);
        fault("pour into itself, ASKED as a smaller one", x -> x.pour(Scene.INTS, Scene.INTS, 4), 2);
    }

    private static void totalFaults() {
        for (int rack : NO_NUMBER_TRAYS) {
            lost("total of rack " + rack, x -> x.total(rack, false), 2);
            lost("real total of rack " + rack, x -> x.total(rack, true), 2);
        }
        lost("total of NOTHING", x -> x.total(Scene.NOTHING, false), 1);
        lost("real total of NOTHING", x -> x.total(Scene.NOTHING, true), 1);
    }

    private static void liftAndWatchFaults() {
        fault("lift from NOTHING", x -> x.lift(Scene.NOTHING, -1), 1);
        fault("watch over NOTHING", x -> x.watch(0, Scene.NOTHING, -1, 9), 1);
        fault("watch over NOTHING, by one over none", x -> x.watch(3, Scene.NOTHING, 0, 9), 1);
        for (int rack : new int[] {Scene.VIAL, Scene.AMPOULE, Scene.NUMBER}) {
            fault("lift from rack " + rack, x -> x.lift(rack, 0), 2);
            fault("lift from rack " + rack + ", cell -1", x -> x.lift(rack, -1), 2);
            fault("watch over rack " + rack, x -> x.watch(0, rack, 0, 9), 2);
            fault("watch over rack " + rack + ", by one over none", x -> x.watch(3, rack, -1, 9), 2);
        }
        fault("lift from no cells", x -> x.lift(Scene.NO_CELLS, 0), 3);
        for (int i : NO_PLACES) {
            fault("lift from cell " + i + " of NUMBERS", x -> x.lift(Scene.INTS, i), 3);
            fault("lift from cell " + i + " of VIALS", x -> x.lift(Scene.VIALS, i), 3);
            fault("lift from cell " + i + " of TRAYS", x -> x.lift(Scene.TRAYS, i), 3);
        }
    }

    private static void layFaults() {
        fault("lay into NOTHING", x -> x.lay(Scene.NOTHING, -1), 1);
        for (int rack : new int[] {Scene.VIAL, Scene.AMPOULE, Scene.NUMBER}) {
            fault("lay into rack " + rack, x -> x.lay(rack, 0), 2);
            fault("lay into rack " + rack + ", cell -1", x -> x.lay(rack, -1), 2);
        }
        for (int i : NO_PLACES) {
            for (int hand : HANDS) {
                layFault(hand, Scene.INTS, i, hand == Scene.NOTHING ? 2 : 3);
                layFault(hand, Scene.VIALS, i, 3);
                layFault(hand, Scene.TRAYS, i, 3);
            }
        }
        for (int hand : HANDS) {
            layFault(hand, Scene.NO_CELLS, 0, hand == Scene.NOTHING ? 2 : 3);
            layFault(hand, Scene.BYTES, 0, 2);
        }
        layFault(Scene.NOTHING, Scene.INTS, 0, 2);
        layFault(Scene.VIAL, Scene.INTS, 0, 2);
        layFault(Scene.INTS, Scene.INTS, 0, 2);
        layFault(Scene.NUMBER, Scene.VIALS, 0, 2);
        layFault(Scene.NUMBER, Scene.TRAYS, 0, 2);
        layFault(Scene.VIAL, Scene.TRAYS, 0, 2);
        layFault(Scene.INTS, Scene.VIALS, 0, 2);
        layFault(Scene.VIALS, Scene.VIALS, 0, 2);
        layFault(Scene.VIALS, Scene.TRAYS, 0, 2);
        layFault(Scene.TRAYS, Scene.TRAYS, 0, 2);
        layFault(Scene.BYTES, Scene.TRAYS, 0, 2);
        layFault(Scene.NO_CELLS, Scene.TRAYS, 0, 2);
    }

    private static void layFault(int hand, int rack, int i, int fault) {
        refusedWithHand(hand, "lay into rack " + rack + ", cell " + i, x -> x.lay(rack, i), -10 - fault, fault);
    }
}
