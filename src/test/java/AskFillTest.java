/** Promises 7 to 11: length, ask, fill, pour, total. */
public final class AskFillTest {
    private static final Due DUE = new Due("AskFillTest");
    private static final String[] WIDER = {"", "1", "245678", "35678", "45678", "5678", "678", "78", "8"};
    private static final long[] VALUES = {
        0, 1, -1, 2, 127, 128, -128, -129, 255, 256, 32767, 32768, -32768, -32769, 65535, 65536, 70000, -70000,
        (1L << 24) - 1, 1L << 24, (1L << 24) + 1, (1L << 24) + 2, (1L << 24) + 3, -(1L << 24) - 1, -(1L << 24) - 3,
        Integer.MAX_VALUE, Integer.MIN_VALUE, 1L << 31, 1L << 32, (1L << 32) + 5, (1L << 53) - 1, 1L << 53,
        (1L << 53) + 1, (1L << 53) + 3, -(1L << 53) - 1, -(1L << 53) - 3, (1L << 40) + 1, (1L << 60) + (1L << 36),
        (1L << 60) + (1L << 36) + 1, (1L << 60) + 3 * (1L << 36), Long.MAX_VALUE, Long.MIN_VALUE, Long.MIN_VALUE + 1};

    public static void main(String[] args) {
        lengths();
        asks();
        askFaults();
        fills();
        fillFaults();
        madeWidenedTold();
        pours();
        pourFaults();
        totals();
        totalFaults();
        DUE.end();
    }

    private static boolean widens(int from, int to) {
        return WIDER[from].indexOf('0' + to) >= 0;
    }

    private static Object made(int kind, long v) {
        switch (kind) {
            case 1: return v != 0;
            case 2: return (byte) v;
            case 3: return (char) v;
            case 4: return (short) v;
            case 5: return (int) v;
            case 6: return v;
            case 7: return (float) v;
            default: return (double) v;
        }
    }

    private static long told(Object tray) {
        Object cell = java.lang.reflect.Array.get(tray, 0);
        if (cell instanceof Boolean) {
            return (Boolean) cell ? 1 : 0;
        }
        if (cell instanceof Float || cell instanceof Double) {
            return Double.doubleToRawLongBits(((Number) cell).doubleValue());
        }
        return cell instanceof Character ? (Character) cell : ((Number) cell).longValue();
    }

    private static Object cell(int kind) {
        Class<?>[] kinds = {null, boolean.class, byte.class, char.class, short.class, int.class, long.class,
            float.class, double.class};
        return java.lang.reflect.Array.newInstance(kinds[kind], 1);
    }

    private static void lengths() {
        DoseRacks x = new DoseRacks();
        for (int n = 0; n <= 12; n++) {
            x.tray(0, 1 + n % 11, n);
            DUE.is("length " + n, x.length(0), n);
        }
        DUE.is("length(-1)", x.length(-1), DoseRacks.UNKNOWN);
        DUE.is("length(10)", x.length(10), DoseRacks.UNKNOWN);
        DUE.is("no fault so far", x.fault(), 0);
        DUE.is("length of NOTHING", x.length(1), -11);
        DUE.is("fault()", x.fault(), 1);
        x.vial(1, false, 4);
        DUE.is("length of a VIAL", x.length(1), -12);
        DUE.is("fault()", x.fault(), 2);
        x.vial(1, true, 4);
        DUE.is("length of an AMPOULE", x.length(1), -12);
        x.think(5, 4);
        x.set(1);
        DUE.is("length of a NUMBER", x.length(1), -12);
        DUE.is("count(2)", x.count(2), 1);
        DUE.is("count(3)", x.count(3), 3);
    }

    private static void asks() {
        for (int kind = 1; kind <= 8; kind++) {
            DoseRacks x = new DoseRacks();
            x.tray(0, kind, 12);
            x.fill(0, 0, kind, 33);
            x.fill(0, 11, kind, -44);
            for (int as = 1; as <= 8; as++) {
                String what = "ask of kind " + kind + " as " + as;
                boolean let = widens(kind, as);
                DUE.is(what, x.ask(0, 11, as), let ? wanted(kind, -44, as) : DoseRacks.LOST);
                DUE.is(what + ", first cell", x.ask(0, 0, as), let ? wanted(kind, 33, as) : DoseRacks.LOST);
                DUE.is(what + ", at first", x.ask(0, 5, as), let ? 0 : DoseRacks.LOST);
            }
            DUE.is("faults of kind " + kind, x.count(3), 3 * (8 - WIDER[kind].length()));
        }
    }

    private static long wanted(int kind, long v, int as) {
        Object given = cell(kind);
        java.lang.reflect.Array.set(given, 0, made(kind, v));
        Object got = cell(as);
        java.lang.reflect.Array.set(got, 0, java.lang.reflect.Array.get(given, 0));
        return told(got);
    }

    private static void askFaults() {
        DoseRacks x = new DoseRacks();
        x.tray(0, 6, 3);
        x.fill(0, 1, 6, 5);
        DUE.is("ask(-1, ..)", x.ask(-1, 1, 6), DoseRacks.LOST);
        DUE.is("ask(10, ..)", x.ask(10, 1, 6), DoseRacks.LOST);
        DUE.is("ask as 0", x.ask(0, 1, 0), DoseRacks.LOST);
        DUE.is("ask as 9", x.ask(0, 1, 9), DoseRacks.LOST);
        DUE.is("UNKNOWN and OUTSIDE are no faults", x.fault(), 0);
        askFault(x, 5, 9, 6, 1);
        x.vial(5, false, 0);
        askFault(x, 5, 9, 6, 2);
        x.think(6, 1);
        x.set(5);
        askFault(x, 5, 0, 6, 2);
        for (int kind = 9; kind <= 11; kind++) {
            x.tray(5, kind, 2);
            askFault(x, 5, 0, 6, 2);
            askFault(x, 5, 2, 6, 2);
        }
        askFault(x, 0, 3, 6, 3);
        askFault(x, 0, -1, 6, 3);
        askFault(x, 0, Integer.MIN_VALUE, 6, 3);
        askFault(x, 0, Integer.MAX_VALUE, 6, 3);
        askFault(x, 0, 3, 5, 3);
        askFault(x, 0, 2, 5, 2);
        DUE.is("asks change nothing", x.ask(0, 1, 6), 5);
        DUE.is("asks note nothing", x.count(5), 1);
    }

    private static void askFault(DoseRacks x, int rack, int i, int kind, int fault) {
        int before = x.count(1 + fault);
        DUE.is("ask(" + rack + ", " + i + ", " + kind + ")", x.ask(rack, i, kind), DoseRacks.LOST);
        DUE.is("its fault", x.fault(), fault);
        DUE.is("its count", x.count(1 + fault), before + 1);
    }

    private static void fills() {
        for (int kind = 1; kind <= 8; kind++) {
            for (int by = 1; by <= 8; by++) {
                DoseRacks x = new DoseRacks();
                x.tray(0, kind, 3);
                boolean let = widens(by, kind);
                String what = "fill of kind " + kind + " by " + by;
                DUE.is(what, x.fill(0, 1, by, -300), let ? 1 : -12);
                DUE.is(what + ", the cell", x.ask(0, 1, kind), let ? wanted(by, -300, kind) : 0);
                DUE.is(what + ", its neighbours", x.ask(0, 0, kind) + x.ask(0, 2, kind), 0);
                DUE.is(what + ", notes", x.count(5), let ? 1 : 0);
                DUE.is(what + ", place", x.fill(0, 3, by, 1), -13);
            }
        }
    }

    private static void fillFaults() {
        DoseRacks x = new DoseRacks();
        x.tray(0, 5, 2);
        DUE.is("fill(-1, ..)", x.fill(-1, 0, 5, 1), DoseRacks.UNKNOWN);
        DUE.is("fill(10, 0, 9, 1)", x.fill(10, 0, 9, 1), DoseRacks.UNKNOWN);
        DUE.is("fill(0, 0, 0, 1)", x.fill(0, 0, 0, 1), DoseRacks.OUTSIDE);
        DUE.is("fill(0, 0, 9, 1)", x.fill(0, 0, 9, 1), DoseRacks.OUTSIDE);
        DUE.is("OUTSIDE ahead of NULL", x.fill(1, 0, 9, 1), DoseRacks.OUTSIDE);
        DUE.is("no fault so far", x.fault(), 0);
        DUE.is("fill of NOTHING", x.fill(1, 7, 8, 1), -11);
        x.vial(1, true, 1);
        DUE.is("fill of an AMPOULE", x.fill(1, 7, 5, 1), -12);
        x.think(5, 5);
        x.set(1);
        DUE.is("fill of a NUMBER", x.fill(1, 0, 5, 1), -12);
        for (int kind = 9; kind <= 11; kind++) {
            x.tray(1, kind, 2);
            DUE.is("fill of kind " + kind, x.fill(1, 0, 5, 1), -12);
            DUE.is("fill of kind " + kind + ", no cell", x.fill(1, 2, 5, 1), -12);
        }
        DUE.is("fill of no cell", x.fill(0, 2, 5, 1), -13);
        DUE.is("fill of no cell", x.fill(0, -1, 5, 1), -13);
        DUE.is("PLACE ahead of KIND", x.fill(0, 2, 8, 1), -13);
        DUE.is("KIND", x.fill(0, 1, 6, 1), -12);
        DUE.is("fault()", x.fault(), 2);
        DUE.is("faults note nothing", x.count(5), 0);
    }

    private static void madeWidenedTold() {
        for (long v : VALUES) {
            DoseRacks x = new DoseRacks();
            for (int kind = 1; kind <= 8; kind++) {
                x.tray(kind, kind, 1);
                DUE.is("fill by " + v, x.fill(kind, 0, kind, v), 1);
                x.think(kind, v);
                DUE.is("kind " + kind + " of " + v, x.value(), wanted(kind, v, kind));
                for (int as = 1; as <= 8; as++) {
                    if (widens(kind, as)) {
                        DUE.is("kind " + kind + " of " + v + " as " + as, x.ask(kind, 0, as), wanted(kind, v, as));
                    }
                }
            }
        }
    }

    private static void pours() {
        DoseRacks x = new DoseRacks();
        x.tray(0, 5, 4);
        x.tray(1, 8, 3);
        x.tray(2, 6, 12);
        for (int i = 0; i < 4; i++) {
            x.fill(0, i, 5, (1 << 24) + 1 + i);
        }
        DUE.is("pour into a shorter one", x.pour(0, 1, 7), 3);
        for (int i = 0; i < 3; i++) {
            DUE.is("poured as a float", x.ask(1, i, 8), Double.doubleToRawLongBits((float) ((1 << 24) + 1 + i)));
        }
        DUE.is("pour into a longer one", x.pour(0, 2, 5), 4);
        for (int i = 0; i < 12; i++) {
            DUE.is("poured into cell " + i, x.ask(2, i, 6), i < 4 ? (1 << 24) + 1 + i : 0);
        }
        DUE.is("cells poured", x.count(6), 7);
        DUE.is("notes", x.count(5), 11);
        DUE.is("pour into itself", x.pour(0, 0, 5), 4);
        DUE.is("it is the same", x.ask(0, 3, 5), (1 << 24) + 4);
        x.tray(3, 1, 0);
        DUE.is("no cell, no fault", x.pour(0, 3, 2), 0);
        DUE.is("no cell, no fault, the other way", x.pour(3, 0, 8), 0);
        DUE.is("cells poured", x.count(6), 11);
        DUE.is("no fault so far", x.fault(), 0);
        for (int i = 3; i >= 0; i--) {
            DUE.is("undo of pour", x.undo(), i);
        }
        DUE.is("undo of pour", x.undo(), 3);
        DUE.is("what the cell had", x.ask(2, 3, 6), 0);
        DUE.is("the cell ahead of it", x.ask(2, 2, 6), (1 << 24) + 3);
    }

    private static void pourFaults() {
        DoseRacks x = new DoseRacks();
        x.tray(0, 5, 2);
        x.fill(0, 0, 5, 9);
        x.vial(1, false, 0);
        x.tray(2, 9, 2);
        x.tray(3, 9, 0);
        x.tray(4, 2, 2);
        DUE.is("pour(-1, 0, 5)", x.pour(-1, 0, 5), DoseRacks.UNKNOWN);
        DUE.is("pour(0, 10, 0)", x.pour(0, 10, 0), DoseRacks.UNKNOWN);
        DUE.is("pour(0, 0, 0)", x.pour(0, 0, 0), DoseRacks.OUTSIDE);
        DUE.is("pour(0, 0, 9)", x.pour(0, 0, 9), DoseRacks.OUTSIDE);
        DUE.is("OUTSIDE ahead of NULL", x.pour(9, 0, 9), DoseRacks.OUTSIDE);
        DUE.is("no fault so far", x.fault(), 0);
        DUE.is("from NOTHING", x.pour(9, 0, 5), -11);
        DUE.is("to NOTHING", x.pour(0, 9, 5), -11);
        DUE.is("NOTHING, then a VIAL", x.pour(9, 1, 5), -11);
        DUE.is("a VIAL, then NOTHING", x.pour(1, 9, 5), -12);
        DUE.is("VIALS, then NOTHING", x.pour(2, 9, 5), -11);
        DUE.is("from a VIAL", x.pour(1, 0, 5), -12);
        DUE.is("to a VIAL", x.pour(0, 1, 5), -12);
        DUE.is("from VIALS", x.pour(2, 0, 5), -12);
        DUE.is("to VIALS", x.pour(0, 2, 5), -12);
        DUE.is("from no VIALS", x.pour(3, 0, 5), -12);
        DUE.is("to no VIALS", x.pour(0, 3, 5), -12);
        DUE.is("asked wrongly", x.pour(0, 4, 2), -12);
        DUE.is("filled wrongly", x.pour(0, 4, 5), -12);
        DUE.is("fault()", x.fault(), 2);
        DUE.is("cells poured", x.count(6), 0);
        DUE.is("notes", x.count(5), 1);
        DUE.is("the cell", x.ask(4, 0, 2), 0);
    }

    private static void totals() {
        DoseRacks x = new DoseRacks();
        x.tray(0, 6, 3);
        x.fill(0, 0, 6, Long.MAX_VALUE);
        x.fill(0, 1, 6, 5);
        x.fill(0, 2, 6, Long.MAX_VALUE);
        DUE.is("a long that wraps", x.total(0, false), 3);
        DUE.is("real", x.total(0, true), bits((double) Long.MAX_VALUE + 5.0 + (double) Long.MAX_VALUE));
        double[] cells = {(double) (1L << 53), 1, 1, -(double) (1L << 53), 3};
        x.tray(1, 8, 5);
        double sum = 0.0;
        for (int i = 0; i < 5; i++) {
            x.fill(1, i, 8, (long) cells[i]);
            sum += cells[i];
        }
        DUE.is("in order", x.total(1, true), bits(sum));
        x.tray(2, 6, 12);
        for (int i = 0; i < 12; i++) {
            x.fill(2, i, 6, Long.MIN_VALUE);
        }
        DUE.is("the least", x.total(2, true), bits(12.0 * Long.MIN_VALUE));
        DUE.is("the least wraps", x.total(2, false), 0);
        x.tray(3, 7, 2);
        x.fill(3, 0, 7, 5);
        x.fill(3, 1, 7, -5);
        DUE.is("none is left", x.total(3, true), 0);
        for (int kind = 2; kind <= 6; kind++) {
            x.tray(4, kind, 3);
            x.fill(4, 1, kind, 200);
            x.fill(4, 2, kind, 201);
            long want = kind == 2 ? (byte) 200 + (byte) 201 : 401;
            DUE.is("total of kind " + kind, x.total(4, false), want);
            DUE.is("real total of kind " + kind, x.total(4, true), bits(want));
        }
        DUE.is("no fault so far", x.fault(), 0);
    }

    private static long bits(double d) {
        return Double.doubleToRawLongBits(d);
    }

    private static void totalFaults() {
        DoseRacks x = new DoseRacks();
        DUE.is("total(-1, false)", x.total(-1, false), DoseRacks.LOST);
        DUE.is("total(10, true)", x.total(10, true), DoseRacks.LOST);
        DUE.is("no fault so far", x.fault(), 0);
        totalFault(x, 0, false, 1);
        x.vial(0, false, 1);
        totalFault(x, 0, true, 2);
        x.think(6, 1);
        x.set(0);
        totalFault(x, 0, false, 2);
        for (int kind = 1; kind <= 11; kind++) {
            x.tray(0, kind, 1);
            if (kind == 1 || kind > 8) {
                totalFault(x, 0, true, 2);
            }
            if (kind == 1 || kind > 6) {
                totalFault(x, 0, false, 2);
            }
            x.tray(0, kind, 0);
            DUE.is("of no cells of kind " + kind, x.total(0, false), 0);
            DUE.is("real of no cells of kind " + kind, x.total(0, true), 0);
        }
    }

    private static void totalFault(DoseRacks x, int rack, boolean real, int fault) {
        int before = x.count(1 + fault);
        DUE.is("total(" + rack + ", " + real + ")", x.total(rack, real), DoseRacks.LOST);
        DUE.is("its fault", x.fault(), fault);
        DUE.is("its count", x.count(1 + fault), before + 1);
    }
}
