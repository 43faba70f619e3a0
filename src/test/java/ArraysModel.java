import java.lang.reflect.Array;

/**
 * The same as DrillCores, told by Java's own arrays: a ROW is a boolean[], byte[][] and so on, and
 * java.lang.reflect.Array looks for NOTHING, PLACE, MISFIT and SIZE, and widens the numbers.
 */
final class ArraysModel {
    private static final Class<?>[] KINDS = {
        boolean.class, byte.class, short.class, char.class, int.class, long.class, float.class, double.class};
    private static final Class<?>[] WRAPPED = {
        Boolean.class, Byte.class, Short.class, Character.class, Integer.class, Long.class, Float.class, Double.class};

    private final Object[] boxes = new Object[10];
    private final int[] met = new int[6];
    private int made = 0;
    private int came = 0;
    private long bitsSeen = 0;

    /** A CAUSE that was met. */
    @SuppressWarnings("serial")
    private static final class Met extends RuntimeException {
        final int cause;

        Met(int cause) {
            this.cause = cause;
        }
    }

    private interface Act {
        int run();
    }

    private int answer(boolean good, Act act) {
        if (!good) {
            return -1;
        }
        int cause;
        try {
            return act.run();
        } catch (Met m) {
            cause = m.cause;
        } catch (NullPointerException e) {
            cause = 1;
        } catch (ArrayIndexOutOfBoundsException e) {
            cause = 3;
        } catch (IllegalArgumentException e) {
            cause = String.valueOf(e.getMessage()).startsWith("Argument is not an array") ? 2 : 4;
        } catch (NegativeArraySizeException e) {
            cause = 5;
        }
        met[cause]++;
        return -10 - cause;
    }

    private static boolean in(int low, int n, int high) {
        return low <= n && n <= high;
    }

    private static Class<?> ofDepth(int kind, int depth) {
        Class<?> c = KINDS[kind];
        for (int i = 0; i < depth; i++) {
            c = c.arrayType();
        }
        return c;
    }

    private Object there(int box, int s, int... places) {
        Object o = boxes[box];
        for (int step = 0; step < s; step++) {
            o = Array.get(o, places[step]);
        }
        return o;
    }

    private static int kindOf(Object number) {
        for (int kind = 0; kind < 8; kind++) {
            if (WRAPPED[kind].isInstance(number)) {
                return kind;
            }
        }
        return -1;
    }

    private static int kindOf(Class<?> c) {
        Class<?> base = c;
        while (base.isArray()) {
            base = base.componentType();
        }
        for (int kind = 0; kind < 8; kind++) {
            if (KINDS[kind] == base) {
                return kind;
            }
        }
        return -1;
    }

    private static int depthOf(Class<?> c) {
        return c.isArray() ? 1 + depthOf(c.componentType()) : 0;
    }

    private static long bitsOf(Object number) {
        switch (kindOf(number)) {
            case 0: return (Boolean) number ? 1 : 0;
            case 3: return (Character) number;
            case 6: return Float.floatToIntBits((Float) number);
            case 7: return Double.doubleToLongBits((Double) number);
            default: return ((Number) number).longValue();
        }
    }

    private static Object readAs(Object row, int place, int kind) {
        switch (kind) {
            case 0: return Array.getBoolean(row, place);
            case 1: return Array.getByte(row, place);
            case 2: return Array.getShort(row, place);
            case 3: return Array.getChar(row, place);
            case 4: return Array.getInt(row, place);
            case 5: return Array.getLong(row, place);
            case 6: return Array.getFloat(row, place);
            default: return Array.getDouble(row, place);
        }
    }

    private static void writeAs(Object row, int place, int kind, long bits) {
        switch (kind) {
            case 0: Array.setBoolean(row, place, (bits & 1) == 1); break;
            case 1: Array.setByte(row, place, (byte) bits); break;
            case 2: Array.setShort(row, place, (short) bits); break;
            case 3: Array.setChar(row, place, (char) bits); break;
            case 4: Array.setInt(row, place, (int) bits); break;
            case 5: Array.setLong(row, place, bits); break;
            case 6: Array.setFloat(row, place, Float.intBitsToFloat((int) bits)); break;
            default: Array.setDouble(row, place, Double.longBitsToDouble(bits)); break;
        }
    }

    int make(int box, int kind, int depth, int n) {
        if (in(0, box, 9) && in(0, kind, 7) && in(1, depth, 3) && (made == 120 || n > 8)) {
            return -2;
        }
        return answer(in(0, box, 9) && in(0, kind, 7) && in(1, depth, 3), () -> {
            boxes[box] = Array.newInstance(ofDepth(kind, depth - 1), n);
            return made++;
        });
    }

    int take(int box, int from) {
        return answer(in(0, box, 9) && in(0, from, 9), () -> {
            boxes[box] = boxes[from];
            return boxes[from] != null ? 1 : 0;
        });
    }

    int empty(int box) {
        return answer(in(0, box, 9), () -> {
            Object held = boxes[box];
            boxes[box] = null;
            return held != null ? 1 : 0;
        });
    }

    int same(int box, int other) {
        return answer(in(0, box, 9) && in(0, other, 9), () -> boxes[box] == boxes[other] ? 1 : 0);
    }

    int look(int box, int s, int a, int b, int c) {
        return answer(in(0, box, 9) && in(0, s, 3), () -> {
            Object o = there(box, s, a, b, c);
            if (o == null) {
                return 40;
            }
            if (o.getClass().isArray()) {
                return kindOf(o.getClass()) + 10 * depthOf(o.getClass());
            }
            bitsSeen = bitsOf(o);
            return kindOf(o);
        });
    }

    int length(int box, int s, int a, int b, int c) {
        return answer(in(0, box, 9) && in(0, s, 3), () -> Array.getLength(there(box, s, a, b, c)));
    }

    int read(int box, int s, int a, int b, int c, int kind) {
        return answer(in(0, box, 9) && in(1, s, 3) && in(0, kind, 7), () -> {
            bitsSeen = bitsOf(readAs(there(box, s - 1, a, b, c), new int[] {a, b, c}[s - 1], kind));
            return 1;
        });
    }

    int write(int box, int s, int a, int b, int c, int kind, long bits) {
        return answer(in(0, box, 9) && in(1, s, 3) && in(0, kind, 7), () -> {
            writeAs(there(box, s - 1, a, b, c), new int[] {a, b, c}[s - 1], kind, bits);
            return 1;
        });
    }

    int hang(int box, int s, int a, int b, int c, int from) {
        return answer(in(0, box, 9) && in(1, s, 3) && in(0, from, 9), () -> {
            Array.set(there(box, s - 1, a, b, c), new int[] {a, b, c}[s - 1], boxes[from]);
            return 1;
        });
    }

    int lift(int box, int s, int a, int b, int c, int to) {
        return answer(in(0, box, 9) && in(1, s, 3) && in(0, to, 9), () -> {
            Object o = there(box, s, a, b, c);
            if (o != null && !o.getClass().isArray()) {
                throw new Met(2);
            }
            boxes[to] = o;
            return o != null ? 1 : 0;
        });
    }

    int turn(int box, int s, int a, int b, int i, int j) {
        return answer(in(0, box, 9) && in(0, s, 2), () -> {
            Object row = there(box, s, a, b);
            Object first = Array.get(row, i);
            Object second = Array.get(row, j);
            Array.set(row, i, second);
            Array.set(row, j, first);
            return 1;
        });
    }

    int fill(int box, int s, int a, int b, int kind, long bits) {
        return answer(in(0, box, 9) && in(0, s, 2) && in(0, kind, 7), () -> {
            Object row = there(box, s, a, b);
            int n = Array.getLength(row);
            for (int place = 0; place < n; place++) {
                writeAs(row, place, kind, bits);
            }
            return n;
        });
    }

    int pour(int box, int to) {
        return answer(in(0, box, 9) && in(0, to, 9), () -> {
            came = 0;
            int n = Array.getLength(boxes[box]);
            Array.getLength(boxes[to]);
            for (int place = 0; place < n; place++) {
                Array.set(boxes[to], place, Array.get(boxes[box], place));
                came++;
            }
            return n;
        });
    }

    int moved() {
        return came;
    }

    private static long[] sumAndCount(Object row, boolean sums) {
        long[] both = new long[2];
        for (int place = 0; place < Array.getLength(row); place++) {
            if (row.getClass().componentType().isPrimitive()) {
                both[0] += sums ? Array.getLong(row, place) : 0;
                both[1]++;
            } else if (Array.get(row, place) != null) {
                long[] inner = sumAndCount(Array.get(row, place), sums);
                both[0] += inner[0];
                both[1] += inner[1];
            }
        }
        return both;
    }

    int total(int box, int s, int a, int b) {
        return answer(in(0, box, 9) && in(0, s, 2), () -> {
            bitsSeen = sumAndCount(there(box, s, a, b), true)[0];
            return 1;
        });
    }

    int count(int box, int s, int a, int b) {
        return answer(in(0, box, 9) && in(0, s, 2), () -> (int) sumAndCount(there(box, s, a, b), false)[1]);
    }

    long seen() {
        return bitsSeen;
    }

    int about(int what) {
        if (!in(0, what, 6)) {
            return -1;
        }
        int used = 0;
        for (Object held : boxes) {
            used += held != null ? 1 : 0;
        }
        return what == 0 ? made : what == 6 ? used : met[what];
    }
}
