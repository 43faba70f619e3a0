/** Promises 8, 9 and 18: read, write, seen; KINDS, BITS and how one KIND goes into another. */
public final class NumbersTest {
    private static final Due due = new Due();
    private static final String[] INTO = {"0", "124567", "24567", "34567", "4567", "567", "67", "7"};
    private static final long[] WHOLES = {
        0, 1, -1, 2, -3, 127, 128, -128, 255, 256, 32767, 32768, -32768, 65535, 65536,
        16777215, 16777216, 16777217, 16777218, 16777219, 16777220, 33554431, 33554433, 33554434, 33554435, 33554438,
        -16777217, -16777219, 2147483583, 2147483584, 2147483585, 2147483647, -2147483648L, 2147483648L, -2147483649L,
        (1L << 52) - 1, (1L << 53) - 1, 1L << 53, (1L << 53) + 1, (1L << 53) + 2, (1L << 53) + 3, (1L << 54) - 1,
        (1L << 54) + 2, (1L << 54) + 3, (1L << 54) + 6, -(1L << 53) - 1, -(1L << 53) - 3, (1L << 62) + (1L << 38),
        (1L << 62) + (1L << 38) + 1, (1L << 62) + 3 * (1L << 38), (1L << 62) + (1L << 9), (1L << 62) + 3 * (1L << 9),
        Long.MAX_VALUE, Long.MAX_VALUE - 511, Long.MAX_VALUE - 512, Long.MAX_VALUE - (1L << 38), Long.MIN_VALUE,
        Long.MIN_VALUE + 1, Long.MIN_VALUE + 512, Long.MIN_VALUE + 1537, 0x123456789abcdefL, -0x123456789abcdefL};
    private static final int[] FLOATS = {
        0, 0x80000000, 1, 0x80000001, 2, 3, 0x007fffff, 0x807fffff, 0x00400000, 0x003fffff, 0x00800000, 0x00800001,
        0x3f800000, 0xbf800000, 0x3fc00000, 0x7f7fffff, 0xff7fffff, 0x7f800000, 0xff800000, 0x40490fdb, 0x34000001,
        0x7f800001, 0xff800001, 0x7fc00000, 0xffc00000, 0x7fffffff, 0xffffffff, 0x7fa00000};

    public static void main(String[] args) {
        whatGoesInto();
        bitsOfWholes();
        bitsOfFloats();
        bitsOfDoubles();
        wholesInto();
        floatsIntoDoubles();
        manyWholes();
        causes();
        bad();
        seenStays();
        due.end();
    }

    private static void whatGoesInto() {
        for (int kind = 0; kind < 8; kind++) {
            for (int other = 0; other < 8; other++) {
                DrillCores x = new DrillCores();
                x.make(0, kind, 1, 1);
                x.make(1, other, 1, 1);
                boolean goes = INTO[kind].indexOf('0' + other) >= 0;
                due.is("8: " + kind + " as " + other, goes ? 1 : Cause.MISFIT, x.read(0, 1, 0, 0, 0, other));
                due.is("9: " + kind + " to " + other, goes ? 1 : Cause.MISFIT, x.write(1, 1, 0, 0, 0, kind, 0));
                due.is("8, 9: met", goes ? 0 : 2, x.about(4));
            }
        }
    }

    private static long kept(int kind, long bits) {
        return thenRead(kind, bits, kind, kind);
    }

    /** Writes a number of a KIND into a row of another one and reads it as a third one. */
    private static long thenRead(int kind, long bits, int row, int as) {
        DrillCores x = new DrillCores();
        x.make(0, row, 1, 2);
        String call = kind + " of " + bits + " to " + row + " as " + as;
        due.is("9: " + call, 1, x.write(0, 1, 1, 0, 0, kind, bits));
        due.is("9: sees nothing", 0, x.seen());
        due.is("8: " + call, 1, x.read(0, 1, 1, 0, 0, as));
        long seen = x.seen();
        due.is("8: the other place", 1, x.read(0, 1, 0, 0, 0, as));
        due.is("8: it is 0", 0, x.seen());
        return seen;
    }

    private static void bitsOfWholes() {
        for (long v : WHOLES) {
            due.is("truth " + v, v & 1, kept(0, v));
            due.is("byte " + v, (byte) v, kept(1, v));
            due.is("short " + v, (short) v, kept(2, v));
            due.is("char " + v, (char) v, kept(3, v));
            due.is("int " + v, (int) v, kept(4, v));
            due.is("long " + v, v, kept(5, v));
        }
    }

    private static void bitsOfFloats() {
        for (int f : FLOATS) {
            long want = Float.floatToIntBits(Float.intBitsToFloat(f));
            due.is("float " + f, want, kept(6, f));
            due.is("float " + f + ", no sign above it", want, kept(6, f & 0xffffffffL));
            due.is("float " + f + ", other bits above it", want, kept(6, f & 0xffffffffL | 0x5a5a5a5aL << 32));
        }
        due.is("no float", 2143289344L, kept(6, -1L));
    }

    private static void bitsOfDoubles() {
        long[] doubles = {0, Long.MIN_VALUE, 1, Long.MIN_VALUE + 1, 0x3ff0000000000000L, 0x7fefffffffffffffL,
            0x7ff0000000000000L, 0xfff0000000000000L, 0x7ff0000000000001L, 0xfff0000000000001L, 0x7ff8000000000000L,
            0xfff8000000000000L, -1L, Long.MAX_VALUE, 0x000fffffffffffffL, 0x0010000000000000L};
        for (long d : doubles) {
            due.is("double " + d, Double.doubleToLongBits(Double.longBitsToDouble(d)), kept(7, d));
        }
        due.is("no double", 9221120237041090560L, kept(7, -1L));
    }

    private static long asBits(long whole, int kind) {
        if (kind == 6) {
            return Float.floatToIntBits((float) whole);
        }
        return kind == 7 ? Double.doubleToLongBits((double) whole) : whole;
    }

    private static void wholesInto() {
        for (long v : WHOLES) {
            for (int kind = 1; kind <= 5; kind++) {
                long number = kind == 1 ? (byte) v : kind == 2 ? (short) v : kind == 3 ? (char) v : kind == 4 ? (int) v : v;
                for (int as = kind; as < 8; as++) {
                    if (INTO[kind].indexOf('0' + as) >= 0) {
                        String what = v + " of " + kind + " in " + as;
                        due.is("8: " + what, asBits(number, as), thenRead(kind, v, kind, as));
                        due.is("9: " + what, asBits(number, as), thenRead(kind, v, as, as));
                    }
                }
            }
        }
        due.is("twice: as a float first", Double.doubleToLongBits((double) (float) 16777219L), thenRead(5, 16777219L, 6, 7));
    }

    private static void floatsIntoDoubles() {
        for (int f : FLOATS) {
            long want = Double.doubleToLongBits((double) Float.intBitsToFloat(f));
            due.is("8: float " + f + " as a double", want, thenRead(6, f, 6, 7));
            due.is("9: float " + f + " to a double", want, thenRead(6, f, 7, 7));
        }
        for (int bit = 0; bit < 31; bit++) {
            int f = 1 << bit;
            long want = Double.doubleToLongBits((double) Float.intBitsToFloat(f));
            due.is("9: float " + f + " to a double", want, thenRead(6, f, 7, 7));
        }
    }

    /** Around every power of two and its halves, where rounding turns. */
    private static void manyWholes() {
        for (int top = 20; top < 64; top++) {
            for (int low = 0; low < top; low++) {
                for (long more = -1; more <= 1; more++) {
                    long v = (1L << top) + (1L << low) + more;
                    readBoth(v);
                    readBoth(-v);
                    readBoth((1L << top) - (1L << low) + more);
                }
            }
        }
    }

    private static void readBoth(long v) {
        DrillCores x = new DrillCores();
        x.make(0, 5, 1, 1);
        x.write(0, 1, 0, 0, 0, 5, v);
        x.read(0, 1, 0, 0, 0, 6);
        due.is("8: " + v + " as a float", asBits(v, 6), x.seen());
        x.read(0, 1, 0, 0, 0, 7);
        due.is("8: " + v + " as a double", asBits(v, 7), x.seen());
    }

    private static int readOrWrite(DrillCores x, boolean reads, int[] path, int kind) {
        return reads
                ? x.read(path[0], path[1], path[2], path[3], path[4], kind)
                : x.write(path[0], path[1], path[2], path[3], path[4], kind, 5);
    }

    private static void causes() {
        int[][] paths = {
            {9, 1, 99, 0, 0}, {0, 2, 0, 99, 0}, {0, 3, 1, 0, 99}, {0, 3, 0, 0, 99},
            {2, 2, 0, 99, 0}, {1, 3, 1, 0, 0}, {2, 3, 0, 0, 0},
            {0, 1, 99, 0, 0}, {1, 1, -1, 0, 0}, {0, 2, 1, 99, 0}, {0, 1, 1, 0, 0},
            {2, 1, 2, 0, 0}, {2, 1, -1, 0, 0}, {1, 2, 1, 2, 0}, {0, 3, 1, 1, 2}, {0, 2, 99, 0, 0}, {0, 3, 1, 99, 0}};
        int[] wanted = {
            Cause.NOTHING, Cause.NOTHING, Cause.NOTHING, Cause.NOTHING,
            Cause.NO_ROW, Cause.NO_ROW, Cause.NO_ROW,
            Cause.NO_ROW, Cause.NO_ROW, Cause.NO_ROW, Cause.NO_ROW,
            Cause.PLACE, Cause.PLACE, Cause.PLACE, Cause.PLACE, Cause.PLACE, Cause.PLACE};
        for (boolean reads : new boolean[] {true, false}) {
            DrillCores x = new DrillCores();
            x.make(0, 4, 3, 2);
            x.make(1, 4, 2, 2);
            x.make(2, 4, 1, 2);
            x.hang(0, 1, 1, 0, 0, 1);
            x.hang(1, 1, 1, 0, 0, 2);
            x.fill(2, 0, 0, 0, 4, 66);
            for (int i = 0; i < paths.length; i++) {
                due.is("8, 9: path " + i, wanted[i], readOrWrite(x, reads, paths[i], 4));
                due.is("8, 9: path " + i + ", ahead of MISFIT", wanted[i], readOrWrite(x, reads, paths[i], 0));
            }
            due.is("8, 9: met 1", 8, x.about(1));
            due.is("8, 9: met 2", 14, x.about(2));
            due.is("8, 9: met 3", 12, x.about(3));
            due.is("8, 9: MISFIT", Cause.MISFIT, readOrWrite(x, reads, new int[] {0, 3, 1, 1, 1}, reads ? 2 : 5));
            due.is("8, 9: no cause changed what is seen", 0, x.seen());
            x.total(0, 0, 0, 0);
            due.is("8, 9: no cause changed a number", 132, x.seen());
            due.is("8, 9: deep", 1, readOrWrite(x, reads, new int[] {0, 3, 1, 1, 1}, 4));
            due.is("8, 9: less deep", 1, readOrWrite(x, reads, new int[] {1, 2, 1, 0, -5}, 4));
        }
    }

    private static void bad() {
        DrillCores x = new DrillCores();
        x.make(0, 4, 1, 1);
        x.write(0, 1, 0, 0, 0, 4, 3);
        int[][] bad = {{-1, 1, 4}, {10, 1, 4}, {0, 0, 4}, {0, -1, 4}, {0, 4, 4}, {0, 1, -1}, {0, 1, 8}, {9, 1, 8}};
        for (int[] b : bad) {
            due.is("8: BAD", -1, x.read(b[0], b[1], 0, 0, 0, b[2]));
            due.is("9: BAD", -1, x.write(b[0], b[1], 0, 0, 0, b[2], 9));
        }
        due.is("8: BAD sees nothing", 0, x.seen());
        for (int cause = 1; cause <= 5; cause++) {
            due.is("8, 9: BAD meets no cause", 0, x.about(cause));
        }
        x.look(0, 1, 0, 0, 0);
        due.is("9: BAD writes nothing", 3, x.seen());
    }

    private static void seenStays() {
        DrillCores x = new DrillCores();
        due.is("18: ahead of one", 0, x.seen());
        x.make(0, 3, 1, 2);
        x.write(0, 1, 0, 0, 0, 3, -1);
        due.is("18: writing sees nothing", 0, x.seen());
        x.read(0, 1, 0, 0, 0, 3);
        due.is("18: as the kind it is read as", 65535, x.seen());
        x.read(0, 1, 0, 0, 0, 6);
        due.is("18: as the kind it is read as", Float.floatToIntBits(65535f), x.seen());
        x.look(0, 1, 0, 0, 0);
        due.is("18: as its own kind", 65535, x.seen());
        x.write(0, 1, 0, 0, 0, 3, 7);
        x.turn(0, 0, 0, 0, 0, 1);
        x.fill(0, 0, 0, 0, 3, 9);
        x.empty(0);
        due.is("18: stays as it was", 65535, x.seen());
    }
}
