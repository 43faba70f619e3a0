/** Terms: KINDS, what GOES INTO what, BITS and NO NUMBER. */
final class KindEdges {
    private static final String[] INTO = {"0", "124567", "24567", "34567", "4567", "567", "67", "7"};
    private static final long NO_FLOAT = 2143289344L;
    private static final long NO_DOUBLE = 9221120237041090560L;

    private final Sentences s;

    KindEdges(Sentences s) {
        this.s = s;
    }

    void all() {
        kinds();
        goesInto();
        sameNumber();
        nearestFloat();
        nearestDouble();
        floatsAsDoubles();
        truths();
        lowestBits();
        bitsOfFloats();
        noNumber();
        signs();
    }

    /** What a number is told as by each way that it comes into a ROW of a KIND or out of one. */
    private void comes(int kind, long bits, int other, long want) {
        String text = "the " + bits + " of kind " + kind + " in kind " + other + ", by ";
        DrillCores x = new DrillCores();
        x.make(0, kind, 1, 1);
        s.is(text + "write() to its own kind", 1, x.write(0, 1, 0, 0, 0, kind, bits));
        s.is(text + "read()", 1, x.read(0, 1, 0, 0, 0, other));
        s.is(text + "read() and seen()", want, x.seen());
        x.make(1, other, 1, 1);
        s.is(text + "write()", 1, x.write(1, 1, 0, 0, 0, kind, bits));
        s.is(text + "write() and look()", want, numberIn(x, 1));
        x.make(2, other, 1, 1);
        s.is(text + "fill()", 1, x.fill(2, 0, 0, 0, kind, bits));
        s.is(text + "fill() and look()", want, numberIn(x, 2));
        x.make(3, other, 1, 1);
        s.is(text + "pour()", 1, x.pour(0, 3));
        s.is(text + "pour() and look()", want, numberIn(x, 3));
    }

    private static long numberIn(DrillCores x, int box) {
        x.look(box, 1, 0, 0, 0);
        return x.seen();
    }

    private void misfits(int kind, int other) {
        String text = "kind " + kind + " in kind " + other + ", by ";
        DrillCores x = new DrillCores();
        x.make(0, kind, 1, 1);
        x.make(1, other, 1, 1);
        s.is(text + "read()", Cause.MISFIT, x.read(0, 1, 0, 0, 0, other));
        s.is(text + "write()", Cause.MISFIT, x.write(1, 1, 0, 0, 0, kind, 1));
        s.is(text + "fill()", Cause.MISFIT, x.fill(1, 0, 0, 0, kind, 1));
        s.is(text + "pour()", Cause.MISFIT, x.pour(0, 1));
        s.is(text + "none of them: look()", other, x.look(1, 1, 0, 0, 0));
        s.is(text + "none of them: seen()", 0, x.seen());
    }

    private void kinds() {
        s.of("Terms", "KINDS of numbers: 0 truths, 1 bytes, 2 shorts, 3 chars, 4 ints, 5 longs, 6 floats, 7 doubles.");
        BadNumbers.named(s, "kind");
        long[] ofAllBits = {1, -1, -1, 65535, -1, -1, NO_FLOAT, NO_DOUBLE};
        for (int kind = 0; kind <= 7; kind++) {
            comes(kind, -1, kind, ofAllBits[kind]);
            DrillCores x = new DrillCores();
            x.make(0, kind, 1, 1);
            s.is("look at a number of kind " + kind, kind, x.look(0, 1, 0, 0, 0));
        }
    }

    private void goesInto() {
        s.of("Terms", "A KIND GOES INTO itself; 1 into 2, 4, 5, 6, 7; 2 and 3 into 4, 5, 6, 7; 4 into 5, 6, 7;"
                + " 5 into 6, 7; 6 into 7:");
        long[] oneIn = {1, 1, 1, 1, 1, 1, 0x3f800000, 0x3ff0000000000000L};
        for (int kind = 0; kind <= 7; kind++) {
            for (int other = 0; other <= 7; other++) {
                if (INTO[kind].indexOf('0' + other) >= 0) {
                    comes(kind, oneIn[kind], other, oneIn[other]);
                } else {
                    misfits(kind, other);
                }
            }
        }
    }

    private void sameNumber() {
        s.of("Terms", "the same number,");
        long[][] ends = {{1, -128, 127}, {2, -32768, 32767}, {3, 0, 65535}, {4, Integer.MIN_VALUE, Integer.MAX_VALUE}};
        for (long[] end : ends) {
            for (int other = 1; other <= 5; other++) {
                if (INTO[(int) end[0]].indexOf('0' + other) >= 0) {
                    comes((int) end[0], end[1], other, end[1]);
                    comes((int) end[0], end[2], other, end[2]);
                }
            }
        }
        comes(5, Long.MIN_VALUE, 5, Long.MIN_VALUE);
        comes(5, Long.MAX_VALUE, 5, Long.MAX_VALUE);
        comes(1, -128, 6, 0xffffffffc3000000L);
        comes(1, -128, 7, 0xc060000000000000L);
        comes(2, -32768, 6, 0xffffffffc7000000L);
        comes(3, 65535, 6, 0x477fff00L);
        comes(3, 65535, 7, 0x40efffe000000000L);
        comes(4, Integer.MAX_VALUE, 7, 0x41dfffffffc00000L);
        comes(4, Integer.MIN_VALUE, 7, 0xc1e0000000000000L);
        for (int kind = 1; kind <= 5; kind++) {
            comes(kind, 0, 6, 0);
            comes(kind, 0, 7, 0);
            comes(kind, 1, 6, 0x3f800000);
            comes(kind, 1, 7, 0x3ff0000000000000L);
        }
        for (int kind : new int[] {1, 2, 4, 5}) {
            comes(kind, -1, 6, (int) 0xbf800000L);
            comes(kind, -1, 7, 0xbff0000000000000L);
        }
    }

    private void nearestFloat() {
        s.of("Terms", "the nearest one in 6, 7 (of two as near the one whose last bit is 0).");
        long[][] floats = {
            {(1 << 24) - 1, 0x4b7fffff}, {1 << 24, 0x4b800000}, {(1 << 24) + 1, 0x4b800000},
            {(1 << 24) + 2, 0x4b800001}, {(1 << 24) + 3, 0x4b800002}, {(1 << 24) + 4, 0x4b800002},
            {(1 << 25) - 1, 0x4c000000}, {(1 << 25) + 1, 0x4c000000}, {(1 << 25) + 2, 0x4c000000},
            {(1 << 25) + 3, 0x4c000001}, {(1 << 25) + 5, 0x4c000001}, {(1 << 25) + 6, 0x4c000002},
            {Integer.MAX_VALUE - 64, 0x4effffff}, {Integer.MAX_VALUE - 63, 0x4f000000}, {Integer.MAX_VALUE, 0x4f000000}};
        for (long[] f : floats) {
            for (int kind = 4; kind <= 5; kind++) {
                comes(kind, f[0], 6, f[1]);
                comes(kind, -f[0], 6, (int) f[1] | 0x80000000);
            }
        }
        comes(4, Integer.MIN_VALUE, 6, (int) 0xcf000000L);
        comes(5, (1L << 62) + (1L << 38), 6, 0x5e800000);
        comes(5, (1L << 62) + (1L << 38) + 1, 6, 0x5e800001);
        comes(5, (1L << 62) + 3 * (1L << 38), 6, 0x5e800002);
        comes(5, Long.MAX_VALUE - (1L << 38), 6, 0x5effffff);
        comes(5, Long.MAX_VALUE - (1L << 38) + 1, 6, 0x5f000000);
        comes(5, Long.MAX_VALUE, 6, 0x5f000000);
        comes(5, Long.MIN_VALUE, 6, (int) 0xdf000000L);
        comes(5, Long.MIN_VALUE + 1, 6, (int) 0xdf000000L);
    }

    private void nearestDouble() {
        long sign = Long.MIN_VALUE;
        long[][] doubles = {
            {(1L << 53) - 1, 0x433fffffffffffffL}, {1L << 53, 0x4340000000000000L}, {(1L << 53) + 1, 0x4340000000000000L},
            {(1L << 53) + 2, 0x4340000000000001L}, {(1L << 53) + 3, 0x4340000000000002L},
            {(1L << 54) - 1, 0x4350000000000000L}, {(1L << 54) + 1, 0x4350000000000000L},
            {(1L << 54) + 2, 0x4350000000000000L}, {(1L << 54) + 3, 0x4350000000000001L},
            {(1L << 54) + 6, 0x4350000000000002L}, {(1L << 62) + (1L << 9), 0x43d0000000000000L},
            {(1L << 62) + (1L << 9) + 1, 0x43d0000000000001L}, {(1L << 62) + 3 * (1L << 9), 0x43d0000000000002L},
            {Long.MAX_VALUE - 512, 0x43dfffffffffffffL}, {Long.MAX_VALUE - 511, 0x43e0000000000000L},
            {Long.MAX_VALUE, 0x43e0000000000000L}};
        for (long[] d : doubles) {
            comes(5, d[0], 7, d[1]);
            comes(5, -d[0], 7, d[1] | sign);
        }
        comes(5, Long.MIN_VALUE, 7, 0xc3e0000000000000L);
    }

    /** Every float is a double, so the nearest one is the same number. */
    private void floatsAsDoubles() {
        long sign = Long.MIN_VALUE;
        long[][] floats = {
            {0, 0}, {1, 0x36a0000000000000L}, {2, 0x36b0000000000000L}, {3, 0x36b8000000000000L},
            {0x003fffff, 0x37ffffff80000000L}, {0x00400000, 0x3800000000000000L}, {0x007fffff, 0x380fffffc0000000L},
            {0x00800000, 0x3810000000000000L}, {0x00800001, 0x3810000020000000L}, {0x3fc00000, 0x3ff8000000000000L},
            {0x7f7fffff, 0x47efffffe0000000L}, {0x7f800000, 0x7ff0000000000000L}};
        for (long[] f : floats) {
            comes(6, f[0], 7, f[1]);
            comes(6, f[0] | 0x80000000L, 7, f[1] | sign);
        }
    }

    private void truths() {
        s.of("Terms", "0 goes into nothing else.");
        comes(0, 0, 0, 0);
        comes(0, 1, 0, 1);
        for (int other = 1; other <= 7; other++) {
            misfits(0, other);
            misfits(other, 0);
        }
    }

    private void lowestBits() {
        s.of("Terms", "BITS of a number: its lowest 1, 8, 16, 16, 32, 64 bits;");
        long[][] told = {
            {0, 0, 0}, {0, 1, 1}, {0, 2, 0}, {0, 3, 1}, {0, -2, 0}, {0, Long.MIN_VALUE, 0},
            {1, 127, 127}, {1, 128, -128}, {1, 255, -1}, {1, 256, 0}, {1, 257, 1}, {1, -129, 127},
            {2, 32767, 32767}, {2, 32768, -32768}, {2, 65535, -1}, {2, 65536, 0}, {2, 65537, 1}, {2, -32769, 32767},
            {3, 32768, 32768}, {3, 65535, 65535}, {3, 65536, 0}, {3, 65537, 1}, {3, -1, 65535}, {3, -65536, 0},
            {4, 0x7fffffffL, Integer.MAX_VALUE}, {4, 0x80000000L, Integer.MIN_VALUE}, {4, 0xffffffffL, -1},
            {4, 0x100000000L, 0}, {4, 0x100000001L, 1}, {4, -0x80000001L, Integer.MAX_VALUE},
            {5, 0x100000000L, 0x100000000L}, {5, Long.MAX_VALUE, Long.MAX_VALUE}, {5, Long.MIN_VALUE, Long.MIN_VALUE},
            {5, -1, -1}};
        for (long[] t : told) {
            comes((int) t[0], t[1], (int) t[0], t[2]);
        }
        comes(1, 0x1ff, 5, -1);
        comes(3, 0x1ffff, 5, 65535);
        comes(4, 0x1ffffffffL, 5, -1);
    }

    private void bitsOfFloats() {
        s.of("Terms", "of 6, 7 those of the float (as an int), the double;");
        long[] floats = {0, 1, 0x007fffff, 0x00800000, 0x3fc00000, 0x7f7fffff, 0x7f800000};
        for (long f : floats) {
            comes(6, f, 6, f);
            comes(6, f | 0x80000000L, 6, (int) f | 0x80000000);
            comes(6, f | 0x7ff00001L << 32, 6, f);
        }
        long[] doubles = {0, 1, 0x000fffffffffffffL, 0x0010000000000000L, 0x3ff8000000000000L, 0x7fefffffffffffffL,
            0x7ff0000000000000L};
        for (long d : doubles) {
            comes(7, d, 7, d);
            comes(7, d | Long.MIN_VALUE, 7, d | Long.MIN_VALUE);
        }
    }

    private void noNumber() {
        s.of("Terms", "what is NO NUMBER is told by 2143289344, 9221120237041090560, whichever BITS were given"
                + " (a NO NUMBER of 6 goes into 7 as that one).");
        long[] floats = {0x7f800001L, 0x7fa00000L, 0x7fbfffffL, 0x7fc00000L, 0x7fc00001L, 0x7fffffffL};
        for (long f : floats) {
            for (long bits : new long[] {f, f | 0x80000000L, (int) f | 0x80000000, f | 1L << 32}) {
                comes(6, bits, 6, NO_FLOAT);
                comes(6, bits, 7, NO_DOUBLE);
            }
        }
        long[] doubles = {0x7ff0000000000001L, 0x7ff4000000000000L, 0x7ff7ffffffffffffL, 0x7ff8000000000000L,
            0x7ff8000000000001L, 0x7fffffffffffffffL};
        for (long d : doubles) {
            comes(7, d, 7, NO_DOUBLE);
            comes(7, d | Long.MIN_VALUE, 7, NO_DOUBLE);
        }
        comes(6, 0x7f800000L, 6, 0x7f800000L);
        comes(6, 0xff800000L, 6, (int) 0xff800000L);
        comes(7, 0x7ff0000000000000L, 7, 0x7ff0000000000000L);
        comes(7, 0xfff0000000000000L, 7, 0xfff0000000000000L);
    }

    private void signs() {
        s.of("Terms", "A number is told as a long by its BITS: of 1, 2, 4, 6 with their sign.");
        comes(0, 1, 0, 1);
        comes(1, 0x80, 1, -128);
        comes(1, 0x7f, 1, 127);
        comes(2, 0x8000, 2, -32768);
        comes(2, 0x7fff, 2, 32767);
        comes(3, 0x8000, 3, 32768);
        comes(4, 0x80000000L, 4, -2147483648L);
        comes(4, 0x7fffffffL, 4, 2147483647L);
        comes(6, 0x80000000L, 6, -2147483648L);
        comes(6, 0xbf800000L, 6, -1082130432L);
        comes(6, 0x7f7fffffL, 6, 2139095039L);
        comes(7, 0xbff0000000000000L, 7, -4616189618054758400L);
    }
}
