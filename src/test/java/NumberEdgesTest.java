import java.math.BigInteger;

/**
 * Section 1's numbers: which KIND "WIDENS" to which, "the nearest float, double to it where there is no same (of two
 * the one with the even last bit)", what is "MADE of v" and how a NUMBER is "TOLD".
 */
public final class NumberEdgesTest {
    private static final Due DUE = new Due("NumberEdgesTest");
    /** Row by row the KIND that widens, 1 to 8; x where it does, column by column 1 to 8. */
    private static final String[] WIDENS = {
        "x.......",
        ".x.xxxxx",
        "..x.xxxx",
        "...xxxxx",
        "....xxxx",
        ".....xxx",
        "......xx",
        ".......x"};
    private static final int FLOAT_BITS = 24, DOUBLE_BITS = 53;

    public static void main(String[] args) {
        everyPairAsked();
        everyPairFilled();
        everyPairLaid();
        everyTriplePoured();
        everyKindTotalled();
        madeOfLowestBits();
        madeTruths();
        toldLetters();
        toldBitsOfThatDouble();
        writtenHalfways();
        halfways();
        endsOfLong();
        roundedOnceOnly();
        widenedIntsAndLettersAreTheSame();
        leastLongIsToldAsItself();
        DUE.end();
    }

    private static boolean widens(int from, int to) {
        return WIDENS[from - 1].charAt(to - 1) == 'x';
    }

    // ---- every pair

    private static void everyPairAsked() {
        for (int kind = 1; kind <= 8; kind++) {
            for (int as = 1; as <= 8; as++) {
                DoseRacks x = new DoseRacks();
                x.tray(0, kind, 1);
                x.fill(0, 0, kind, 1);
                boolean let = widens(kind, as);
                String what = "kind " + kind + " asked as " + as;
                DUE.is(what, x.ask(0, 0, as), !let ? DoseRacks.LOST : as < 7 ? 1 : 0x3FF0000000000000L);
                DUE.is(what + ": fault()", x.fault(), let ? 0 : 2);
                DUE.is(what + ": count(3)", x.count(3), let ? 0 : 1);
            }
        }
    }

    private static void everyPairFilled() {
        for (int kind = 1; kind <= 8; kind++) {
            for (int by = 1; by <= 8; by++) {
                DoseRacks x = new DoseRacks();
                x.tray(0, kind, 1);
                boolean let = widens(by, kind);
                String what = "kind " + kind + " filled by " + by;
                DUE.is(what, x.fill(0, 0, by, 1), let ? 1 : -12);
                DUE.is(what + ", the cell", x.ask(0, 0, kind), !let ? 0 : kind < 7 ? 1 : 0x3FF0000000000000L);
                DUE.is(what + ": fault()", x.fault(), let ? 0 : 2);
                DUE.is(what + ": notes", x.count(5), let ? 1 : 0);
            }
        }
    }

    private static void everyPairLaid() {
        for (int kind = 1; kind <= 8; kind++) {
            for (int carried = 1; carried <= 8; carried++) {
                DoseRacks x = new DoseRacks();
                x.tray(0, kind, 1);
                x.think(carried, 1);
                boolean let = widens(carried, kind);
                String what = "kind " + carried + " laid into kind " + kind;
                DUE.is(what, x.lay(0, 0), let ? 1 : -12);
                DUE.is(what + ", the cell", x.ask(0, 0, kind), !let ? 0 : kind < 7 ? 1 : 0x3FF0000000000000L);
                DUE.is(what + ", the hand", x.hand(), carried);
                DUE.is(what + ": notes", x.count(5), let ? 1 : 0);
            }
        }
    }

    private static void everyTriplePoured() {
        for (int from = 1; from <= 8; from++) {
            for (int as = 1; as <= 8; as++) {
                for (int to = 1; to <= 8; to++) {
                    DoseRacks x = new DoseRacks();
                    x.tray(0, from, 2);
                    x.fill(0, 1, from, 1);
                    x.tray(1, to, 2);
                    boolean let = widens(from, as) && widens(as, to);
                    String what = "kind " + from + " poured as " + as + " into " + to;
                    DUE.is(what, x.pour(0, 1, as), let ? 2 : -12);
                    DUE.is(what + ", the cell", x.ask(1, 1, to), !let ? 0 : to < 7 ? 1 : 0x3FF0000000000000L);
                    DUE.is(what + ", cells poured", x.count(6), let ? 2 : 0);
                    DUE.is(what + ": fault()", x.fault(), let ? 0 : 2);
                }
            }
        }
    }

    private static void everyKindTotalled() {
        for (int kind = 1; kind <= 8; kind++) {
            DoseRacks x = new DoseRacks();
            x.tray(0, kind, 1);
            x.fill(0, 0, kind, 1);
            DUE.is("total of kind " + kind, x.total(0, false), widens(kind, 6) ? 1 : DoseRacks.LOST);
            DUE.is("real total of kind " + kind, x.total(0, true), widens(kind, 8) ? 0x3FF0000000000000L : DoseRacks.LOST);
        }
    }

    // ---- MADE and TOLD

    /** v, then what KINDS 2, 3, 4, 5 are made of it. */
    private static final long[][] LOWEST = {
        {0x7F, 127, 127, 127, 127}, {0x80, -128, 128, 128, 128}, {0xFF, -1, 255, 255, 255}, {0x100, 0, 256, 256, 256},
        {-0x80, -128, 65408, -128, -128}, {-0x81, 127, 65407, -129, -129}, {-1, -1, 65535, -1, -1},
        {0x7FFF, -1, 32767, 32767, 32767}, {0x8000, 0, 32768, -32768, 32768}, {-0x8000, 0, 32768, -32768, -32768},
        {-0x8001, -1, 32767, 32767, -32769}, {0xFFFF, -1, 65535, -1, 65535}, {0x10000, 0, 0, 0, 65536},
        {0x7FFFFFFFL, -1, 65535, -1, 2147483647}, {0x80000000L, 0, 0, 0, -2147483648L},
        {0xFFFFFFFFL, -1, 65535, -1, -1}, {0x100000000L, 0, 0, 0, 0}, {0x1234567887654321L, 0x21, 0x4321, 0x4321, 0x87654321},
        {-0x80000001L, -1, 65535, -1, 2147483647}, {Long.MAX_VALUE, -1, 65535, -1, -1}, {Long.MIN_VALUE, 0, 0, 0, 0}};

    private static void madeOfLowestBits() {
        for (long[] row : LOWEST) {
            for (int kind = 2; kind <= 5; kind++) {
                DoseRacks x = new DoseRacks();
                String what = "kind " + kind + " of " + row[0];
                x.think(kind, row[0]);
                DUE.is(what + ", thought", x.value(), row[kind - 1]);
                x.tray(0, kind, 1);
                x.fill(0, 0, kind, row[0]);
                DUE.is(what + ", filled", x.ask(0, 0, kind), row[kind - 1]);
                x.tray(1, 6, 1);
                x.fill(1, 0, kind, row[0]);
                DUE.is(what + ", filled into a long", x.ask(1, 0, 6), row[kind - 1]);
            }
            DoseRacks x = new DoseRacks();
            x.think(6, row[0]);
            DUE.is("kind 6 of " + row[0], x.value(), row[0]);
        }
    }

    private static void madeTruths() {
        long[] truths = {1, -1, 2, 0x100, 1L << 32, 1L << 63, Long.MAX_VALUE};
        for (long v : truths) {
            DoseRacks x = new DoseRacks();
            x.think(1, v);
            DUE.is("a truth of " + v, x.value(), 1);
            x.tray(0, 1, 1);
            x.fill(0, 0, 1, v);
            DUE.is("a truth filled of " + v, x.ask(0, 0, 1), 1);
            x.fill(0, 0, 1, 0);
            DUE.is("a truth filled of 0", x.ask(0, 0, 1), 0);
        }
    }

    private static void toldLetters() {
        int[] letters = {0, 1, 127, 128, 255, 256, 32767, 32768, 55296, 57343, 65534, 65535};
        for (int letter : letters) {
            DoseRacks x = new DoseRacks();
            x.tray(0, 3, 1);
            x.fill(0, 0, 3, letter);
            DUE.is("letter " + letter, x.ask(0, 0, 3), letter);
            DUE.is("letter " + letter + "'s code as an int", x.ask(0, 0, 5), letter);
            DUE.is("letter " + letter + "'s code as a long", x.ask(0, 0, 6), letter);
            x.lift(0, 0);
            DUE.is("letter " + letter + " in THE HAND", x.value(), letter);
            x.fill(0, 0, 3, letter - 65536);
            DUE.is("letter of the same lowest bits", x.ask(0, 0, 3), letter);
        }
    }

    /** Whole numbers that are a float, and the 64 bits of that double. */
    private static final long[][] BITS = {
        {0, 0}, {1, 0x3FF0000000000000L}, {-1, 0xBFF0000000000000L}, {2, 0x4000000000000000L}, {3, 0x4008000000000000L},
        {-3, 0xC008000000000000L}, {100, 0x4059000000000000L}, {16777215, 0x416FFFFFE0000000L},
        {16777216, 0x4170000000000000L}, {-16777216, 0xC170000000000000L}, {1L << 52, 0x4330000000000000L},
        {1L << 53, 0x4340000000000000L}, {1L << 54, 0x4350000000000000L}, {1L << 62, 0x43D0000000000000L},
        {Long.MIN_VALUE, 0xC3E0000000000000L}};

    private static void toldBitsOfThatDouble() {
        for (long[] row : BITS) {
            for (int kind = 7; kind <= 8; kind++) {
                DoseRacks x = new DoseRacks();
                x.think(kind, row[0]);
                DUE.is("kind " + kind + " of " + row[0], x.value(), row[1]);
                x.tray(0, kind, 1);
                x.fill(0, 0, kind, row[0]);
                DUE.is("a cell of kind " + kind + " of " + row[0], x.ask(0, 0, kind), row[1]);
                DUE.is("as kind 8", x.ask(0, 0, 8), row[1]);
            }
        }
    }

    // ---- the nearest

    /** A number, and the whole numbers that its float and its double are. */
    private static final long[][] WRITTEN = {
        {16777217, 16777216, 16777217}, {16777218, 16777218, 16777218}, {16777219, 16777220, 16777219},
        {33554434, 33554432, 33554434}, {33554435, 33554436, 33554435}, {33554438, 33554440, 33554438},
        {2147483647, 2147483648L, 2147483647}, {2147483583, 2147483520, 2147483583}, {2147483584, 2147483648L, 2147483584},
        {9007199254740991L, 9007199254740992L, 9007199254740991L},
        {9007199254740993L, 9007199254740992L, 9007199254740992L},
        {9007199254740994L, 9007199254740992L, 9007199254740994L},
        {9007199254740995L, 9007199254740992L, 9007199254740996L},
        {18014398509481986L, 18014398509481984L, 18014398509481984L},
        {18014398509481987L, 18014398509481984L, 18014398509481988L},
        {18014398509481990L, 18014398509481984L, 18014398509481992L}};

    private static void writtenHalfways() {
        for (long[] row : WRITTEN) {
            for (int sign = 1; sign >= -1; sign -= 2) {
                nearest(sign * row[0], bits(BigInteger.valueOf(sign * row[1])), bits(BigInteger.valueOf(sign * row[2])));
            }
        }
    }

    /** Halfway between two, one less and one more, where the lower one's last bit is even and where it is odd. */
    private static void halfways() {
        for (int top = FLOAT_BITS; top <= 62; top++) {
            around(top, top - FLOAT_BITS);
            if (top >= DOUBLE_BITS) {
                around(top, top - DOUBLE_BITS);
            }
        }
    }

    private static void around(int top, int half) {
        long[] lows = {1L << top, (1L << top) + (2L << half), (1L << top) + (4L << half), (2L << top) - (2L << half),
            (2L << top) - (4L << half), (1L << top) + (1L << top - 1)};
        for (long low : lows) {
            for (int beside = -1; beside <= 1; beside++) {
                long v = low + (1L << half) + beside;
                nearest(v);
                nearest(-v);
            }
        }
    }

    private static void endsOfLong() {
        nearest(Long.MAX_VALUE, 0x43E0000000000000L, 0x43E0000000000000L);
        nearest(Long.MIN_VALUE, 0xC3E0000000000000L, 0xC3E0000000000000L);
        nearest(Long.MIN_VALUE + 1, 0xC3E0000000000000L, 0xC3E0000000000000L);
        for (int less = 0; less < 3; less++) {
            // Halfway to the largest that is below 2^63, of floats and of doubles.
            nearest(Long.MAX_VALUE - (1L << 38) + less);
            nearest(Long.MAX_VALUE - (1L << 9) + less);
            nearest(Long.MIN_VALUE + (1L << 38) - 1 + less);
            nearest(Long.MIN_VALUE + (1L << 9) - 1 + less);
        }
        nearest(Integer.MAX_VALUE);
        nearest(Integer.MIN_VALUE);
    }

    /** The float of a long is not the float of its double: that would be rounded twice. */
    private static void roundedOnceOnly() {
        long above = (1L << 60) + (1L << 36) + 1;
        nearest(above, bits(BigInteger.valueOf((1L << 60) + (1L << 37))), bits(BigInteger.valueOf((1L << 60) + (1L << 36))));
        long below = (1L << 60) + 3 * (1L << 36) - 1;
        nearest(below, bits(BigInteger.valueOf((1L << 60) + (1L << 37))), bits(BigInteger.valueOf(below + 1)));
        nearest(-above);
        nearest(-below);
    }

    private static void nearest(long v) {
        nearest(v, bits(rounded(v, FLOAT_BITS)), bits(rounded(v, DOUBLE_BITS)));
    }

    /** By every way on which a number becomes a float or a double. */
    private static void nearest(long v, long asFloat, long asDouble) {
        DoseRacks x = new DoseRacks();
        x.think(7, v);
        DUE.is("thought float of " + v, x.value(), asFloat);
        x.think(8, v);
        DUE.is("thought double of " + v, x.value(), asDouble);
        x.tray(0, 6, 1);
        x.fill(0, 0, 6, v);
        DUE.is("long " + v + " asked as a float", x.ask(0, 0, 7), asFloat);
        DUE.is("long " + v + " asked as a double", x.ask(0, 0, 8), asDouble);
        DUE.is("real total of " + v, x.total(0, true), asDouble);
        x.tray(1, 7, 1);
        x.tray(2, 8, 1);
        x.pour(0, 1, 6);
        x.pour(0, 2, 6);
        DUE.is("long " + v + " poured into a float", x.ask(1, 0, 7), asFloat);
        DUE.is("that float as a double", x.ask(1, 0, 8), asFloat);
        DUE.is("long " + v + " poured into a double", x.ask(2, 0, 8), asDouble);
        x.pour(0, 2, 7);
        DUE.is("long " + v + " poured as a float into a double", x.ask(2, 0, 8), asFloat);
        x.think(6, v);
        x.lay(1, 0);
        x.lay(2, 0);
        DUE.is("long " + v + " laid into a float", x.ask(1, 0, 7), asFloat);
        DUE.is("long " + v + " laid into a double", x.ask(2, 0, 8), asDouble);
        x.fill(1, 0, 6, v);
        x.fill(2, 0, 6, v);
        DUE.is("float filled by long " + v, x.ask(1, 0, 7), asFloat);
        DUE.is("double filled by long " + v, x.ask(2, 0, 8), asDouble);
        if (v == (int) v) {
            x.tray(3, 5, 1);
            x.fill(3, 0, 5, v);
            DUE.is("int " + v + " asked as a float", x.ask(3, 0, 7), asFloat);
            DUE.is("int " + v + " asked as a double", x.ask(3, 0, 8), asDouble);
        }
        DUE.is("no fault of " + v, x.fault(), 0);
    }

    /** Worked out on whole numbers alone: so many bits are kept, of two the one with the even last bit. */
    private static BigInteger rounded(long v, int kept) {
        BigInteger size = BigInteger.valueOf(v).abs();
        int gone = Math.max(0, size.bitLength() - kept);
        BigInteger unit = BigInteger.ONE.shiftLeft(gone);
        BigInteger[] parts = size.divideAndRemainder(unit);
        int beside = parts[1].shiftLeft(1).compareTo(unit);
        boolean up = beside > 0 || beside == 0 && parts[0].testBit(0);
        BigInteger near = parts[0].add(up ? BigInteger.ONE : BigInteger.ZERO).multiply(unit);
        return v < 0 ? near.negate() : near;
    }

    /** The 64 bits of the double that is this very number. */
    private static long bits(BigInteger number) {
        if (number.signum() == 0) {
            return 0;
        }
        BigInteger size = number.abs();
        int top = size.bitLength() - 1;
        long fraction = size.shiftLeft(DOUBLE_BITS).shiftRight(top + 1).longValueExact() - (1L << 52);
        return (number.signum() < 0 ? Long.MIN_VALUE : 0) | (long) (1023 + top) << 52 | fraction;
    }

    private static void widenedIntsAndLettersAreTheSame() {
        long[][] rows = {{2, -128}, {2, 127}, {3, 0}, {3, 65535}, {4, -32768}, {4, 32767}};
        for (long[] row : rows) {
            int kind = (int) row[0];
            DoseRacks x = new DoseRacks();
            x.tray(0, kind, 1);
            x.fill(0, 0, kind, row[1]);
            for (int as = 5; as <= 8; as++) {
                long want = as < 7 ? row[1] : bits(BigInteger.valueOf(row[1]));
                DUE.is("kind " + kind + " of " + row[1] + " as " + as, x.ask(0, 0, as), want);
            }
        }
    }

    private static void leastLongIsToldAsItself() {
        DoseRacks x = new DoseRacks();
        x.tray(0, 6, 1);
        x.fill(0, 0, 6, Long.MIN_VALUE);
        DUE.is("the least long, asked", x.ask(0, 0, 6), Long.MIN_VALUE);
        DUE.is("the least long, total", x.total(0, false), Long.MIN_VALUE);
        x.lift(0, 0);
        DUE.is("the least long, in THE HAND", x.value(), Long.MIN_VALUE);
        DUE.is("the HAND has it", x.hand(), 6);
        DUE.is("it is no fault", x.fault(), 0);
        DUE.is("no fault is counted", x.count(2) + x.count(3) + x.count(4), 0);
    }
}
