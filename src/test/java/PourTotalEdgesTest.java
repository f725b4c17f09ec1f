/** Promises 10 and 11 at their edges: pour "as many as the shorter one has", total "a long that wraps". */
public final class PourTotalEdgesTest {
    private static final Due DUE = new Due("PourTotalEdgesTest");

    public static void main(String[] args) {
        asManyAsTheShorterHas();
        noCells();
        pouredIntoItself();
        lengthsAheadOfNumbers();
        cellsPouredAddUp();
        longThatWraps();
        realInOrder();
        realOfManyKinds();
        totalOfNoCells();
        DUE.end();
    }

    private static void asManyAsTheShorterHas() {
        for (int from = 0; from <= 12; from++) {
            for (int to = 0; to <= 12; to++) {
                DoseRacks x = new DoseRacks();
                x.tray(0, 5, from);
                x.tray(1, 6, to);
                for (int i = 0; i < from; i++) {
                    x.fill(0, i, 5, 100 + i);
                }
                for (int i = 0; i < to; i++) {
                    x.fill(1, i, 6, -1 - i);
                }
                int cells = Math.min(from, to);
                String what = "pour of " + from + " cells into " + to;
                DUE.is(what, x.pour(0, 1, 5), cells);
                for (int i = 0; i < to; i++) {
                    DUE.is(what + ", cell " + i, x.ask(1, i, 6), i < cells ? 100 + i : -1 - i);
                }
                for (int i = 0; i < from; i++) {
                    DUE.is(what + ", the other keeps cell " + i, x.ask(0, i, 5), 100 + i);
                }
                DUE.is(what + ", cells poured", x.count(6), cells);
                DUE.is(what + ", notes", x.count(5), Math.min(30, from + to + cells));
                for (int i = cells - 1; i >= 0; i--) {
                    DUE.is(what + ", undo", x.undo(), i);
                    DUE.is(what + ", cell " + i + " again", x.ask(1, i, 6), -1 - i);
                }
                DUE.is(what + ", no fault", x.fault(), 0);
            }
        }
    }

    /** Where there is no cell there is none that has a fault: any KIND is let. */
    private static void noCells() {
        for (int from = 1; from <= 8; from++) {
            for (int kind = 1; kind <= 8; kind++) {
                for (int to = 1; to <= 8; to++) {
                    DoseRacks x = new DoseRacks();
                    x.tray(0, from, 0);
                    x.tray(1, to, 2);
                    x.tray(2, to, 0);
                    x.tray(3, from, 2);
                    String what = "kind " + from + " as " + kind + " into " + to + ": ";
                    DUE.is(what + "from no cells", x.pour(0, 1, kind), 0);
                    DUE.is(what + "into no cells", x.pour(3, 2, kind), 0);
                    DUE.is(what + "neither has cells", x.pour(0, 2, kind), 0);
                    DUE.is(what + "no fault", x.fault(), 0);
                    DUE.is(what + "no notes, none poured", x.count(5) + x.count(6), 0);
                }
            }
        }
        for (int kind = 9; kind <= 11; kind++) {
            DoseRacks x = new DoseRacks();
            x.tray(0, kind, 0);
            x.tray(1, 5, 0);
            DUE.is("no TRAY of NUMBERS, no cells: from", x.pour(0, 1, 5), -12);
            DUE.is("no TRAY of NUMBERS, no cells: to", x.pour(1, 0, 5), -12);
            DUE.is("no TRAY of NUMBERS, no cells: both", x.pour(0, 0, 5), -12);
        }
    }

    private static void pouredIntoItself() {
        for (int kind = 1; kind <= 8; kind++) {
            DoseRacks x = new DoseRacks();
            x.tray(0, kind, 12);
            x.hold(1, 0);
            x.fill(0, 11, kind, -1);
            long last = x.ask(0, 11, kind);
            String what = "kind " + kind + " into itself";
            DUE.is(what, x.pour(0, 0, kind), 12);
            DUE.is(what + ", by another rack", x.pour(0, 1, kind), 12);
            DUE.is(what + ", the last cell", x.ask(0, 11, kind), last);
            DUE.is(what + ", the first cell", x.ask(0, 0, kind), 0);
            DUE.is(what + ", cells poured", x.count(6), 24);
            DUE.is(what + ", as another KIND", x.pour(0, 0, kind == 8 ? 7 : kind + 1), -12);
            DUE.is(what + ", the last cell still", x.ask(0, 11, kind), last);
        }
    }

    private static void lengthsAheadOfNumbers() {
        DoseRacks x = new DoseRacks();
        x.tray(0, 9, 1);
        x.vial(1, false, 1);
        x.tray(2, 5, 1);
        DUE.is("VIALS have a length; NOTHING has none", x.pour(0, 9, 5), -11);
        DUE.is("a VIAL has none: the one ahead of the other", x.pour(1, 9, 5), -12);
        DUE.is("NOTHING ahead of a VIAL", x.pour(9, 1, 5), -11);
        DUE.is("NOTHING ahead of VIALS", x.pour(9, 0, 5), -11);
        DUE.is("both NOTHING", x.pour(9, 8, 5), -11);
        DUE.is("lengths ahead of the cell's KIND", x.pour(2, 9, 1), -11);
        DUE.is("faults by NULL", x.count(2), 5);
        DUE.is("faults by KIND", x.count(3), 1);
        DUE.is("one fault a call, the latest", x.fault(), 1);
    }

    private static void cellsPouredAddUp() {
        DoseRacks x = new DoseRacks();
        x.tray(0, 5, 12);
        x.tray(1, 4, 12);
        int poured = 0;
        for (int step = 0; step < 100; step++) {
            DUE.is("pour", x.pour(0, 0, 5), 12);
            poured += 12;
            DUE.is("a pour with a fault", x.pour(0, 1, 5), -12);
            x.undo();
            DUE.is("cells poured", x.count(6), poured);
        }
    }

    // ---- total

    private static void longThatWraps() {
        long[][] rows = {{Long.MAX_VALUE, 1}, {Long.MIN_VALUE, -1}, {Long.MIN_VALUE, Long.MIN_VALUE},
            {Long.MAX_VALUE, Long.MAX_VALUE}, {Long.MAX_VALUE, Long.MIN_VALUE}, {Long.MAX_VALUE - 1, 1}};
        long[] want = {Long.MIN_VALUE, Long.MAX_VALUE, 0, -2, -1, Long.MAX_VALUE};
        for (int row = 0; row < rows.length; row++) {
            DoseRacks x = new DoseRacks();
            x.tray(0, 6, 2);
            x.fill(0, 0, 6, rows[row][0]);
            x.fill(0, 1, 6, rows[row][1]);
            DUE.is("total of row " + row, x.total(0, false), want[row]);
            DUE.is("no fault of row " + row, x.fault(), 0);
        }
        DoseRacks x = new DoseRacks();
        x.tray(0, 6, 12);
        x.tray(1, 5, 12);
        for (int i = 0; i < 12; i++) {
            x.fill(0, i, 6, Long.MAX_VALUE);
            x.fill(1, i, 5, Integer.MAX_VALUE);
        }
        DUE.is("twelve of the largest", x.total(0, false), -12);
        DUE.is("ints do not wrap as ints", x.total(1, false), 12L * Integer.MAX_VALUE);
    }

    private static void realInOrder() {
        long big = 1L << 53;
        long[][] rows = {{big, 1, 1}, {1, 1, big}, {1, big, 1}, {big, 1, -big}, {1, -big, big}, {-big, -1, -1},
            {big, -big, 1}, {Long.MAX_VALUE, Long.MAX_VALUE, -1}, {Long.MIN_VALUE, Long.MIN_VALUE, 1}, {3, -3, 0}};
        for (long[] row : rows) {
            DoseRacks x = new DoseRacks();
            x.tray(0, 8, 3);
            x.tray(1, 6, 3);
            double sum = 0.0;
            for (int i = 0; i < 3; i++) {
                x.fill(0, i, 8, row[i]);
                x.fill(1, i, 6, row[i]);
                sum += (double) row[i];
            }
            String what = "real total of " + row[0] + ", " + row[1] + ", " + row[2];
            DUE.is(what + " as doubles", x.total(0, true), Double.doubleToRawLongBits(sum));
            DUE.is(what + " as longs", x.total(1, true), Double.doubleToRawLongBits(sum));
            DUE.is(what + " as doubles is no long", x.total(0, false), DoseRacks.LOST);
        }
        DoseRacks x = new DoseRacks();
        x.tray(0, 8, 3);
        x.fill(0, 0, 8, big);
        x.fill(0, 1, 8, 1);
        x.fill(0, 2, 8, 1);
        DUE.is("each one is lost beside the big one", x.total(0, true), 0x4340000000000000L);
        x.fill(0, 0, 8, 1);
        x.fill(0, 2, 8, big);
        DUE.is("together they are not", x.total(0, true), 0x4340000000000001L);
    }

    private static void realOfManyKinds() {
        for (int kind = 2; kind <= 8; kind++) {
            DoseRacks x = new DoseRacks();
            x.tray(0, kind, 12);
            DUE.is("real total of zeros of kind " + kind, x.total(0, true), 0);
            for (int i = 0; i < 12; i++) {
                x.fill(0, i, kind, 100);
            }
            DUE.is("real total of kind " + kind, x.total(0, true), Double.doubleToRawLongBits(1200.0));
            x.fill(0, 11, kind, 16777217);
            long last = kind == 2 ? 1 : kind == 3 || kind == 4 ? 1 : kind == 7 ? 16777216 : 16777217;
            DUE.is("its last cell is in it", x.total(0, true), Double.doubleToRawLongBits(1100.0 + last));
        }
        DoseRacks x = new DoseRacks();
        x.tray(0, 6, 12);
        for (int i = 0; i < 12; i++) {
            x.fill(0, i, 6, i < 11 ? Long.MIN_VALUE : Long.MIN_VALUE + 1);
        }
        DUE.is("the least of all", x.total(0, true), Double.doubleToRawLongBits(12.0 * -9223372036854775808.0));
    }

    private static void totalOfNoCells() {
        for (int kind = 1; kind <= 11; kind++) {
            DoseRacks x = new DoseRacks();
            x.tray(0, kind, 0);
            DUE.is("total of no cells of kind " + kind, x.total(0, false), 0);
            DUE.is("real total of no cells of kind " + kind, x.total(0, true), 0);
            DUE.is("no fault", x.fault(), 0);
            x.tray(0, kind, 1);
            boolean whole = kind >= 2 && kind <= 6;
            boolean real = kind >= 2 && kind <= 8;
            DUE.is("total of one cell of kind " + kind, x.total(0, false), whole ? 0 : DoseRacks.LOST);
            DUE.is("its faults", x.count(3), whole ? 0 : 1);
            DUE.is("real total of one cell of kind " + kind, x.total(0, true), real ? 0 : DoseRacks.LOST);
            DUE.is("its faults", x.count(3), (whole ? 0 : 1) + (real ? 0 : 1));
        }
    }
}
