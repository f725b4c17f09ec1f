import java.lang.reflect.Array;
import java.util.ArrayDeque;

/**
 * The document once more, on the machine's own arrays: its reflection widens, refuses and tells
 * faults by its own rules, so that this model shares no rule of widening or of order with the program.
 */
final class ReflectedRacks {
    static class Vial {
        final int mark;

        Vial(int mark) {
            this.mark = mark;
        }
    }

    static final class Ampoule extends Vial {
        Ampoule(int mark) {
            super(mark);
        }
    }

    private record Note(Object tray, int i, Object had) { }

    private interface Act {
        long run();
    }

    private static final Class<?>[] CELLS = {null, boolean.class, byte.class, char.class, short.class, int.class,
        long.class, float.class, double.class, Vial.class, Ampoule.class, int[].class};
    private static final long LOST = Long.MIN_VALUE;

    private final Object[] racks = new Object[10];
    private final Object[] watched = new Object[6];
    private final int[][] watches = new int[6][5];
    private final ArrayDeque<Note> notes = new ArrayDeque<>();
    private final int[] faults = new int[4];
    private Object hand;
    private int latest;
    private int trays;
    private int vials;
    private int poured;

    // ---- the calls, by number, with up to four arguments

    long call(int number, int a, int b, int c, long v) {
        switch (number) {
            case 0: return tray(a, b, c);
            case 1: return vial(a, b > 0, (int) v);
            case 2: return no(a) || no(b) ? -1 : put(a, racks[b]);
            case 3: return no(a) ? -1 : put(a, null);
            case 4: return no(a) ? -1 : sort(racks[a]);
            case 5: return no(a) ? -1 : act(false, () -> Array.getLength(racks[a]));
            case 6: return no(a) || noNumber(c) ? LOST : act(true, () -> told(asked(racks[a], b, c)));
            case 7: return no(a) ? -1 : noNumber(c) ? -2 : act(false, () -> fill(racks[a], b, made(c, v)));
            case 8: return no(a) || no(b) ? -1 : noNumber(c) ? -2 : act(false, () -> pour(racks[a], racks[b], c));
            case 9: return no(a) ? LOST : act(true, () -> total(racks[a], b > 0));
            case 10: return no(a) ? -1 : act(false, () -> lift(racks[a], b));
            case 11: return no(a) ? -1 : grasp(racks[a]);
            case 12: return noNumber(c) ? -2 : grasp(made(c, v));
            case 13: return no(a) ? -1 : act(false, () -> lay(racks[a], b));
            case 14: return no(a) ? -1 : put(a, hand);
            case 15: return kindOf(hand);
            case 16: return value();
            case 17: return no(a) ? -1 : alike(racks[a]) ? 1 : 0;
            case 18: return undo();
            case 19: return c < 0 || c > 5 || no(a) ? -1 : act(false, () -> watch(c, racks[a], b, (int) v));
            case 20: return patrol();
            case 21: return c < 0 || c > 5 ? -1 : b < 0 || b > 3 ? -2 : watched[c] == null ? -4 : watches[c][b];
            case 22: return latest;
            default: return count(b);
        }
    }

    static long callReal(DoseRacks x, int number, int a, int b, int c, long v) {
        switch (number) {
            case 0: return x.tray(a, b, c);
            case 1: return x.vial(a, b > 0, (int) v);
            case 2: return x.hold(a, b);
            case 3: return x.clear(a);
            case 4: return x.sort(a);
            case 5: return x.length(a);
            case 6: return x.ask(a, b, c);
            case 7: return x.fill(a, b, c, v);
            case 8: return x.pour(a, b, c);
            case 9: return x.total(a, b > 0);
            case 10: return x.lift(a, b);
            case 11: return x.take(a);
            case 12: return x.think(c, v);
            case 13: return x.lay(a, b);
            case 14: return x.set(a);
            case 15: return x.hand();
            case 16: return x.value();
            case 17: return x.alike(a);
            case 18: return x.undo();
            case 19: return x.watch(c, a, b, (int) v);
            case 20: return x.patrol();
            case 21: return x.told(c, b);
            case 22: return x.fault();
            default: return x.count(b);
        }
    }

    // ---- what the machine refuses, told by its kind

    private static int faultOf(RuntimeException refusal) {
        return refusal instanceof NullPointerException ? 1
            : refusal instanceof ArrayIndexOutOfBoundsException ? 3 : 2;
    }

    private long act(boolean longs, Act act) {
        try {
            return act.run();
        } catch (NullPointerException | IllegalArgumentException | ArrayIndexOutOfBoundsException refusal) {
            latest = faultOf(refusal);
            faults[latest]++;
            return longs ? LOST : -10 - latest;
        }
    }

    private static boolean no(int rack) {
        return rack < 0 || rack > 9;
    }

    private static boolean noNumber(int kind) {
        return kind < 1 || kind > 8;
    }

    // ---- numbers

    private static Object made(int kind, long v) {
        switch (kind) {
            case 1: return v != 0;
            case 2: return (byte) v;
            case 3: return (char) v;
            case 4: return (short) v;
            case 5: return (int) v;
            case 6: return v;
            case 7: return (float) v;
            default: return (double) v;
        }
    }

    private static Object asked(Object tray, int i, int kind) {
        switch (kind) {
            case 1: return Array.getBoolean(tray, i);
            case 2: return Array.getByte(tray, i);
            case 3: return Array.getChar(tray, i);
            case 4: return Array.getShort(tray, i);
            case 5: return Array.getInt(tray, i);
            case 6: return Array.getLong(tray, i);
            case 7: return Array.getFloat(tray, i);
            default: return Array.getDouble(tray, i);
        }
    }

    private static void filled(Object tray, int i, Object number) {
        if (number instanceof Boolean x) {
            Array.setBoolean(tray, i, x);
        } else if (number instanceof Byte x) {
            Array.setByte(tray, i, x);
        } else if (number instanceof Character x) {
            Array.setChar(tray, i, x);
        } else if (number instanceof Short x) {
            Array.setShort(tray, i, x);
        } else if (number instanceof Integer x) {
            Array.setInt(tray, i, x);
        } else if (number instanceof Long x) {
            Array.setLong(tray, i, x);
        } else if (number instanceof Float x) {
            Array.setFloat(tray, i, x);
        } else {
            Array.setDouble(tray, i, (Double) number);
        }
    }

    private static long told(Object number) {
        if (number instanceof Boolean truth) {
            return truth ? 1 : 0;
        }
        if (number instanceof Character letter) {
            return letter;
        }
        if (number instanceof Float || number instanceof Double) {
            return Double.doubleToRawLongBits(((Number) number).doubleValue());
        }
        return ((Number) number).longValue();
    }

    private static int kindOf(Object thing) {
        if (thing == null) {
            return 0;
        }
        if (thing instanceof Vial) {
            return thing instanceof Ampoule ? 10 : 9;
        }
        Class<?>[] boxes = {Boolean.class, Byte.class, Character.class, Short.class, Integer.class, Long.class,
            Float.class, Double.class};
        for (int kind = 1; kind <= 8; kind++) {
            if (thing.getClass() == boxes[kind - 1]) {
                return kind;
            }
        }
        return 11;
    }

    // ---- racks

    private int put(int rack, Object thing) {
        racks[rack] = thing;
        return 1;
    }

    private int tray(int rack, int kind, int n) {
        if (no(rack)) {
            return -1;
        }
        if (kind < 1 || kind > 11 || n < 0 || n > 12) {
            return -2;
        }
        if (trays == 40) {
            return -3;
        }
        trays++;
        return put(rack, Array.newInstance(CELLS[kind], n));
    }

    private int vial(int rack, boolean ampoule, int mark) {
        if (no(rack)) {
            return -1;
        }
        if (vials == 30) {
            return -3;
        }
        put(rack, ampoule ? new Ampoule(mark) : new Vial(mark));
        return ++vials;
    }

    private static int sort(Object thing) {
        if (thing == null) {
            return 0;
        }
        if (thing.getClass().isArray()) {
            return thing.getClass().getComponentType().isPrimitive() ? 1 : 2;
        }
        return thing instanceof Ampoule ? 4 : thing instanceof Vial ? 3 : 5;
    }

    // ---- asked, filled

    private void note(Object tray, int i, Object had) {
        notes.addLast(new Note(tray, i, had));
        if (notes.size() > 30) {
            notes.removeFirst();
        }
    }

    private Object had(Object tray, int i) {
        return tray != null && tray.getClass().isArray() && i >= 0 && i < Array.getLength(tray) ? Array.get(tray, i) : null;
    }

    private int fill(Object tray, int i, Object number) {
        Object had = had(tray, i);
        filled(tray, i, number);
        note(tray, i, had);
        return 1;
    }

    private int pour(Object from, Object to, int kind) {
        int one = Array.getLength(from);
        int other = Array.getLength(to);
        if (sort(from) != 1 || sort(to) != 1) {
            throw new IllegalArgumentException();
        }
        int n = Math.min(one, other);
        for (int i = 0; i < n; i++) {
            fill(to, i, asked(from, i, kind));
            poured++;
        }
        return n;
    }

    private static long total(Object tray, boolean real) {
        int n = Array.getLength(tray);
        long whole = 0;
        double sum = 0.0;
        for (int i = 0; i < n; i++) {
            if (real) {
                sum += Array.getDouble(tray, i);
            } else {
                whole += Array.getLong(tray, i);
            }
        }
        return real ? Double.doubleToRawLongBits(sum) : whole;
    }

    // ---- the hand

    private int grasp(Object thing) {
        hand = thing;
        return 1;
    }

    private int lift(Object tray, int i) {
        hand = Array.get(tray, i);
        return kindOf(hand);
    }

    private int lay(Object tray, int i) {
        Object had = had(tray, i);
        Array.set(tray, i, hand);
        note(tray, i, had);
        return 1;
    }

    private long value() {
        if (hand == null) {
            return LOST;
        }
        if (hand instanceof Vial vial) {
            return vial.mark;
        }
        return hand.getClass().isArray() ? Array.getLength(hand) : told(hand);
    }

    private boolean alike(Object thing) {
        if (sort(hand) == 5 && sort(thing) == 5) {
            return hand.getClass() == thing.getClass() && told(hand) == told(thing);
        }
        return hand == thing;
    }

    // ---- notes, watches, counts

    private int undo() {
        if (notes.isEmpty()) {
            return -4;
        }
        Note note = notes.removeLast();
        Array.set(note.tray, note.i, note.had);
        return note.i;
    }

    private int watch(int watch, Object tray, int i, int limit) {
        Array.getLength(tray);
        watched[watch] = tray;
        watches[watch] = new int[] {0, 0, 0, limit, i};
        return 1;
    }

    private int patrol() {
        int came = 0;
        for (int watch = 0; watch < 6; watch++) {
            if (watched[watch] == null) {
                continue;
            }
            int[] counts = watches[watch];
            try {
                if (Array.getDouble(watched[watch], counts[4]) > counts[3]) {
                    counts[0]++;
                    came++;
                }
            } catch (IllegalArgumentException | ArrayIndexOutOfBoundsException refusal) {
                counts[faultOf(refusal) - 1]++;
            }
        }
        return came;
    }

    private int count(int what) {
        switch (what) {
            case 0: return trays;
            case 1: return vials;
            case 2: case 3: case 4: return faults[what - 1];
            case 5: return notes.size();
            case 6: return poured;
            default: return -2;
        }
    }
}
