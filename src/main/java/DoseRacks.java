/** A pharmacy's racks with trays of every kind, and a robot that asks, fills, carries and pours. */
public final class DoseRacks {
    public static final int UNKNOWN = -1, OUTSIDE = -2, FULL = -3, NONE = -4;
    public static final long LOST = Long.MIN_VALUE;

    private static final int RACKS = 10, WATCHES = 6, NOTES_KEPT = 30;
    private static final int MOST_CELLS = 12, MOST_TRAYS = 40, MOST_VIALS = 30;

    private static final int TRUTHS = 1, BYTES = 2, LETTERS = 3, SHORTS = 4, INTS = 5, LONGS = 6,
            FLOATS = 7, DOUBLES = 8, VIALS = 9, AMPOULES = 10, INT_TRAYS = 11;

    private static final int NO_FAULT = 0, NULL_FAULT = 1, KIND_FAULT = 2, PLACE_FAULT = 3;

    // A double's last bit is worth one where the number lies from 2^52 up to 2^53.
    private static final long TWO_TO_52 = 1L << 52, TWO_TO_53 = 1L << 53;
    private static final int FRACTION_BITS = 52, EXPONENT_OF_ONES = 1075;
    // Sums stay under 12 * 2^63, so that fewer halvings and doublings than this bring any of them there.
    private static final int MOST_SCALINGS = 64;

    private final Thing[] racks;
    private final Watch[] watches;
    private final Notes notes;
    private final int[] faultCounts;
    private Thing inHand;
    private int latestFault;
    private int traysMade;
    private int vialsMade;
    private int cellsPoured;

    public DoseRacks() {
        racks = new Thing[RACKS];
        notes = new Notes();
        faultCounts = new int[PLACE_FAULT + 1];
        watches = new Watch[WATCHES];
        for (int w = 0; w < WATCHES; w++) {
            watches[w] = new Watch();
        }
    }

    // ---- 1 racks

    public int tray(int rack, int kind, int n) {
        if (!isRack(rack)) {
            return UNKNOWN;
        }
        if (kind < TRUTHS || kind > INT_TRAYS || n < 0 || n > MOST_CELLS) {
            return OUTSIDE;
        }
        if (traysMade >= MOST_TRAYS) {
            return FULL;
        }
        traysMade++;
        racks[rack] = isNumberKind(kind) ? new NumberTray(kind, n) : new ThingTray(kind, n);
        return 1;
    }

    public int vial(int rack, boolean ampoule, int mark) {
        if (!isRack(rack)) {
            return UNKNOWN;
        }
        if (vialsMade >= MOST_VIALS) {
            return FULL;
        }
        vialsMade++;
        racks[rack] = new Vial(ampoule, mark);
        return vialsMade;
    }

    public int hold(int rack, int from) {
        if (!isRack(rack) || !isRack(from)) {
            return UNKNOWN;
        }
        racks[rack] = racks[from];
        return 1;
    }

    public int clear(int rack) {
        if (!isRack(rack)) {
            return UNKNOWN;
        }
        racks[rack] = null;
        return 1;
    }

    public int sort(int rack) {
        if (!isRack(rack)) {
            return UNKNOWN;
        }
        Thing thing = racks[rack];
        return thing == null ? 0 : thing.sortOfThing();
    }

    // ---- 2 asked, filled

    public int length(int rack) {
        if (!isRack(rack)) {
            return UNKNOWN;
        }
        Tray tray = trayOf(racks[rack]);
        return tray == null ? refused(lengthFault(racks[rack])) : tray.cellCount();
    }

    public long ask(int rack, int i, int kind) {
        if (!isRack(rack) || !isNumberKind(kind)) {
            return LOST;
        }
        int fault = askFault(racks[rack], i, kind);
        NumberTray tray = numberTrayOf(racks[rack]);
        if (fault != NO_FAULT || tray == null) {
            return lost(fault);
        }
        return tray.figureAt(i).widenedTo(kind).tell();
    }

    public int fill(int rack, int i, int kind, long v) {
        if (!isRack(rack)) {
            return UNKNOWN;
        }
        if (!isNumberKind(kind)) {
            return OUTSIDE;
        }
        int fault = fillFault(racks[rack], i, kind);
        if (fault != NO_FAULT) {
            return refused(fault);
        }
        change(trayOf(racks[rack]), i, Figure.madeOf(kind, v));
        return 1;
    }

    public int pour(int from, int to, int kind) {
        if (!isRack(from) || !isRack(to)) {
            return UNKNOWN;
        }
        if (!isNumberKind(kind)) {
            return OUTSIDE;
        }
        int fault = pourFault(racks[from], racks[to], kind);
        NumberTray source = numberTrayOf(racks[from]);
        NumberTray target = numberTrayOf(racks[to]);
        if (fault != NO_FAULT || source == null || target == null) {
            return refused(fault);
        }
        int cells = Math.min(source.cellCount(), target.cellCount());
        for (int place = 0; place < cells; place++) {
            change(target, place, source.figureAt(place).widenedTo(kind));
        }
        cellsPoured += cells;
        return cells;
    }

    public long total(int rack, boolean real) {
        if (!isRack(rack)) {
            return LOST;
        }
        int fault = totalFault(racks[rack], real ? DOUBLES : LONGS);
        if (fault != NO_FAULT) {
            return lost(fault);
        }
        NumberTray tray = numberTrayOf(racks[rack]);
        if (tray == null) {
            // Another tray has no fault here only when it has no cell: there is nothing to add.
            return 0L;
        }
        return real ? bitsOf(tray.realSum()) : tray.wholeSum();
    }

    // ---- 3 the hand

    public int lift(int rack, int i) {
        if (!isRack(rack)) {
            return UNKNOWN;
        }
        Tray tray = trayOf(racks[rack]);
        if (tray == null) {
            return refused(lengthFault(racks[rack]));
        }
        if (!tray.hasCell(i)) {
            return refused(PLACE_FAULT);
        }
        inHand = tray.thingAt(i);
        return kindInHand();
    }

    public int take(int rack) {
        if (!isRack(rack)) {
            return UNKNOWN;
        }
        inHand = racks[rack];
        return 1;
    }

    public int think(int kind, long v) {
        if (!isNumberKind(kind)) {
            return OUTSIDE;
        }
        inHand = Figure.madeOf(kind, v);
        return 1;
    }

    public int lay(int rack, int i) {
        if (!isRack(rack)) {
            return UNKNOWN;
        }
        int fault = layFault(racks[rack], i, inHand);
        if (fault != NO_FAULT) {
            return refused(fault);
        }
        change(trayOf(racks[rack]), i, inHand);
        return 1;
    }

    public int set(int rack) {
        if (!isRack(rack)) {
            return UNKNOWN;
        }
        racks[rack] = inHand;
        return 1;
    }

    public int hand() {
        return kindInHand();
    }

    public long value() {
        return inHand == null ? LOST : inHand.worth();
    }

    public int alike(int rack) {
        if (!isRack(rack)) {
            return UNKNOWN;
        }
        return isAlike(inHand, racks[rack]) ? 1 : 0;
    }

    // ---- 4 notes

    public int undo() {
        return notes.takeBack();
    }

    // ---- 5 watches

    public int watch(int watch, int rack, int i, int limit) {
        if (!isWatch(watch) || !isRack(rack)) {
            return UNKNOWN;
        }
        Tray tray = trayOf(racks[rack]);
        if (tray == null) {
            return refused(lengthFault(racks[rack]));
        }
        watches[watch].begin(tray, i, limit);
        return 1;
    }

    public int patrol() {
        int came = 0;
        for (int w = 0; w < WATCHES; w++) {
            if (watches[w].lookOnce()) {
                came++;
            }
        }
        return came;
    }

    public int told(int watch, int what) {
        if (!isWatch(watch)) {
            return UNKNOWN;
        }
        if (what < 0 || what > 3) {
            return OUTSIDE;
        }
        return watches[watch].report(what);
    }

    // ---- what there is

    public int fault() {
        return latestFault;
    }

    public int count(int what) {
        switch (what) {
            case 0:
                return traysMade;
            case 1:
                return vialsMade;
            case 2:
                return faultCounts[NULL_FAULT];
            case 3:
                return faultCounts[KIND_FAULT];
            case 4:
                return faultCounts[PLACE_FAULT];
            case 5:
                return notes.kept;
            case 6:
                return cellsPoured;
            default:
                return OUTSIDE;
        }
    }

    // ---- what calls share

    private static boolean isRack(int rack) {
        return rack >= 0 && rack < RACKS;
    }

    private static boolean isWatch(int watch) {
        return watch >= 0 && watch < WATCHES;
    }

    private static boolean isNumberKind(int kind) {
        return kind >= TRUTHS && kind <= DOUBLES;
    }

    private static Tray trayOf(Thing thing) {
        if (thing instanceof Tray tray) {
            return tray;
        }
        return null;
    }

    private static NumberTray numberTrayOf(Thing thing) {
        if (thing instanceof NumberTray tray) {
            return tray;
        }
        return null;
    }

    private int kindInHand() {
        return inHand == null ? 0 : inHand.carriedKind();
    }

    private static boolean isAlike(Thing one, Thing other) {
        if (one instanceof Figure mine && other instanceof Figure theirs) {
            return mine.kind == theirs.kind && mine.tell() == theirs.tell();
        }
        return one == other;
    }

    private void change(Tray tray, int place, Thing thing) {
        if (tray == null) {
            return;
        }
        notes.add(tray, place, tray.thingAt(place));
        tray.put(place, thing);
    }

    // ---- faults

    private int refused(int fault) {
        remember(fault);
        return -10 - fault;
    }

    private long lost(int fault) {
        remember(fault);
        return LOST;
    }

    private void remember(int fault) {
        if (fault >= NULL_FAULT && fault <= PLACE_FAULT) {
            latestFault = fault;
            faultCounts[fault]++;
        }
    }

    private static int lengthFault(Thing thing) {
        if (thing == null) {
            return NULL_FAULT;
        }
        return thing instanceof Tray ? NO_FAULT : KIND_FAULT;
    }

    private static int numberCellFault(Thing thing, int place) {
        if (thing == null) {
            return NULL_FAULT;
        }
        NumberTray tray = numberTrayOf(thing);
        if (tray == null) {
            return KIND_FAULT;
        }
        return tray.hasCell(place) ? NO_FAULT : PLACE_FAULT;
    }

    private static int askFault(Thing thing, int place, int kind) {
        int fault = numberCellFault(thing, place);
        NumberTray tray = numberTrayOf(thing);
        if (fault != NO_FAULT || tray == null) {
            return fault;
        }
        return widens(tray.kind, kind) ? NO_FAULT : KIND_FAULT;
    }

    private static int fillFault(Thing thing, int place, int kind) {
        int fault = numberCellFault(thing, place);
        NumberTray tray = numberTrayOf(thing);
        if (fault != NO_FAULT || tray == null) {
            return fault;
        }
        return widens(kind, tray.kind) ? NO_FAULT : KIND_FAULT;
    }

    private static int pourFault(Thing source, Thing target, int kind) {
        int fault = lengthFault(source);
        if (fault == NO_FAULT) {
            fault = lengthFault(target);
        }
        if (fault != NO_FAULT) {
            return fault;
        }
        NumberTray from = numberTrayOf(source);
        NumberTray to = numberTrayOf(target);
        if (from == null || to == null) {
            return KIND_FAULT;
        }
        // All cells of a tray are of one kind, so that cell 0, if both have it, speaks for the rest.
        if (from.cellCount() == 0 || to.cellCount() == 0) {
            return NO_FAULT;
        }
        fault = askFault(from, 0, kind);
        return fault == NO_FAULT ? fillFault(to, 0, kind) : fault;
    }

    private static int totalFault(Thing thing, int kind) {
        Tray tray = trayOf(thing);
        if (tray == null) {
            return lengthFault(thing);
        }
        // Here, too, cell 0 speaks for all cells.
        return tray.cellCount() == 0 ? NO_FAULT : askFault(tray, 0, kind);
    }

    private static int layFault(Thing thing, int place, Thing laid) {
        Tray tray = trayOf(thing);
        if (tray == null) {
            return lengthFault(thing);
        }
        if (laid == null && tray instanceof NumberTray) {
            return KIND_FAULT;
        }
        if (!tray.hasCell(place)) {
            return PLACE_FAULT;
        }
        return tray.accepts(laid) ? NO_FAULT : KIND_FAULT;
    }

    // ---- numbers

    private static boolean widens(int from, int to) {
        if (from == to) {
            return true;
        }
        switch (from) {
            case BYTES:
                return to >= SHORTS && to <= DOUBLES;
            case LETTERS:
            case SHORTS:
                return to >= INTS && to <= DOUBLES;
            case INTS:
                return to >= LONGS && to <= DOUBLES;
            case LONGS:
                return to >= FLOATS && to <= DOUBLES;
            case FLOATS:
                return to == DOUBLES;
            default:
                return false;
        }
    }

    /** The 64 bits of a double that is whole and under 2^67: no other comes about here. */
    private static long bitsOf(double number) {
        if (number == 0.0) {
            return 0L;
        }
        double size = number < 0.0 ? 0.0 - number : number;
        int exponent = EXPONENT_OF_ONES;
        for (int step = 0; step < MOST_SCALINGS && size >= (double) TWO_TO_53; step++) {
            size = size / 2.0;
            exponent++;
        }
        for (int step = 0; step < MOST_SCALINGS && size < (double) TWO_TO_52; step++) {
            size = size * 2.0;
            exponent--;
        }
        long bits = ((long) exponent << FRACTION_BITS) + ((long) size - TWO_TO_52);
        return number < 0.0 ? bits | Long.MIN_VALUE : bits;
    }

    // ---- things

    private abstract static class Thing {
        abstract int sortOfThing();

        abstract int carriedKind();

        abstract long worth();
    }

    /** A NUMBER: it never changes, so that a cell, a rack and the hand may share one. */
    private static final class Figure extends Thing {
        final int kind;
        private final long whole;
        // A float stands here as the same double.
        private final double real;

        private Figure(int kind, long whole, double real) {
            this.kind = kind;
            this.whole = whole;
            this.real = real;
        }

        static Figure madeOf(int kind, long v) {
            switch (kind) {
                case TRUTHS:
                    return new Figure(kind, v == 0L ? 0L : 1L, 0.0);
                case BYTES:
                    return new Figure(kind, (long) (byte) v, 0.0);
                case LETTERS:
                    return new Figure(kind, (long) (char) v, 0.0);
                case SHORTS:
                    return new Figure(kind, (long) (short) v, 0.0);
                case INTS:
                    return new Figure(kind, (long) (int) v, 0.0);
                case FLOATS:
                    return new Figure(kind, 0L, (double) (float) v);
                case DOUBLES:
                    return new Figure(kind, 0L, (double) v);
                default:
                    return new Figure(kind, v, 0.0);
            }
        }

        Figure widenedTo(int wider) {
            if (wider == kind) {
                return this;
            }
            if (isReal()) {
                return new Figure(wider, 0L, real);
            }
            return madeOf(wider, whole);
        }

        double asReal() {
            return isReal() ? real : (double) whole;
        }

        long asWhole() {
            return whole;
        }

        long tell() {
            return isReal() ? bitsOf(real) : whole;
        }

        private boolean isReal() {
            return kind == FLOATS || kind == DOUBLES;
        }

        int sortOfThing() {
            return 5;
        }

        int carriedKind() {
            return kind;
        }

        long worth() {
            return tell();
        }
    }

    private static final class Vial extends Thing {
        final boolean ampoule;
        private final int mark;

        Vial(boolean ampoule, int mark) {
            this.ampoule = ampoule;
            this.mark = mark;
        }

        int sortOfThing() {
            return ampoule ? 4 : 3;
        }

        int carriedKind() {
            return ampoule ? AMPOULES : VIALS;
        }

        long worth() {
            return mark;
        }
    }

    private abstract static class Tray extends Thing {
        final int kind;

        Tray(int kind) {
            this.kind = kind;
        }

        abstract int cellCount();

        abstract Thing thingAt(int place);

        /** Whether such a thing, or nothing, may be in a cell. */
        abstract boolean accepts(Thing thing);

        abstract void put(int place, Thing thing);

        final boolean hasCell(int place) {
            return place >= 0 && place < cellCount();
        }

        final int carriedKind() {
            return INT_TRAYS;
        }

        final long worth() {
            return cellCount();
        }
    }

    private static final class NumberTray extends Tray {
        private final Figure zero;
        private final Figure[] figures;

        NumberTray(int kind, int cells) {
            super(kind);
            zero = Figure.madeOf(kind, 0L);
            figures = new Figure[Math.max(cells, 0)];
            for (int place = 0; place < figures.length; place++) {
                figures[place] = zero;
            }
        }

        Figure figureAt(int place) {
            return hasCell(place) ? figures[place] : zero;
        }

        long wholeSum() {
            long sum = 0L;
            for (int place = 0; place < figures.length; place++) {
                sum += figures[place].asWhole();
            }
            return sum;
        }

        double realSum() {
            double sum = 0.0;
            for (int place = 0; place < figures.length; place++) {
                sum = sum + figures[place].asReal();
            }
            return sum;
        }

        int cellCount() {
            return figures.length;
        }

        Thing thingAt(int place) {
            return figureAt(place);
        }

        boolean accepts(Thing thing) {
            return thing instanceof Figure figure && widens(figure.kind, kind);
        }

        void put(int place, Thing thing) {
            if (hasCell(place) && thing instanceof Figure figure) {
                figures[place] = figure.widenedTo(kind);
            }
        }

        int sortOfThing() {
            return 1;
        }
    }

    private static final class ThingTray extends Tray {
        private final Thing[] things;

        ThingTray(int kind, int cells) {
            super(kind);
            things = new Thing[Math.max(cells, 0)];
        }

        int cellCount() {
            return things.length;
        }

        Thing thingAt(int place) {
            return hasCell(place) ? things[place] : null;
        }

        boolean accepts(Thing thing) {
            if (thing == null) {
                return true;
            }
            switch (kind) {
                case VIALS:
                    return thing instanceof Vial;
                case AMPOULES:
                    return thing instanceof Vial vial && vial.ampoule;
                default:
                    return thing instanceof Tray tray && tray.kind == INTS;
            }
        }

        void put(int place, Thing thing) {
            if (hasCell(place)) {
                things[place] = thing;
            }
        }

        int sortOfThing() {
            return 2;
        }
    }

    // ---- notes and watches

    /** A ring of the latest changes: the oldest makes room for one too many. */
    private static final class Notes {
        private final Tray[] trays = new Tray[NOTES_KEPT];
        private final int[] places = new int[NOTES_KEPT];
        private final Thing[] had = new Thing[NOTES_KEPT];
        private int next;
        int kept;

        void add(Tray tray, int place, Thing thing) {
            if (next >= NOTES_KEPT) {
                next = 0;
            }
            trays[next] = tray;
            places[next] = place;
            had[next] = thing;
            next++;
            kept = Math.min(kept + 1, NOTES_KEPT);
        }

        int takeBack() {
            if (kept == 0) {
                return NONE;
            }
            kept--;
            next = next > 0 ? next - 1 : NOTES_KEPT - 1;
            Tray tray = trays[next];
            if (tray != null) {
                tray.put(places[next], had[next]);
            }
            return places[next];
        }
    }

    private static final class Watch {
        private Tray tray;
        private int place;
        private int limit;
        private int calls;
        private int kindFaults;
        private int placeFaults;

        void begin(Tray watched, int cell, int most) {
            tray = watched;
            place = cell;
            limit = most;
            calls = 0;
            kindFaults = 0;
            placeFaults = 0;
        }

        /** Whether the watch calls; what it met is counted. */
        boolean lookOnce() {
            if (tray == null) {
                return false;
            }
            int fault = askFault(tray, place, DOUBLES);
            if (fault == KIND_FAULT) {
                kindFaults++;
            }
            if (fault == PLACE_FAULT) {
                placeFaults++;
            }
            NumberTray numbers = numberTrayOf(tray);
            if (fault != NO_FAULT || numbers == null || numbers.figureAt(place).asReal() <= (double) limit) {
                return false;
            }
            calls++;
            return true;
        }

        int report(int what) {
            if (tray == null) {
                return NONE;
            }
            switch (what) {
                case 0:
                    return calls;
                case 1:
                    return kindFaults;
                case 2:
                    return placeFaults;
                default:
                    return limit;
            }
        }
    }
}
