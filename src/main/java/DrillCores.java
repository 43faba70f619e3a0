/**
 * Rows of numbers of eight kinds, rows of such rows and rows of these, held in ten boxes and
 * reached by paths. The words in capitals in the comments are those of the document.
 */
public final class DrillCores {
    public static final int BAD = -1, FULL = -2;

    private static final int BOXES = 10;
    private static final int DEPTHS = 3;
    private static final int MOST_STEPS = 3;
    private static final int MOST_PLACES = 8;
    private static final int MOST_ROWS = 120;

    private static final int NONE = 0;
    private static final int NOTHING = 1;
    private static final int NO_ROW = 2;
    private static final int PLACE = 3;
    private static final int MISFIT = 4;
    private static final int SIZE = 5;

    private static final int ABOUT_MADE = 0;
    private static final int ABOUT_BOXES = 6;
    private static final int LOOKS_LIKE_NOTHING = 40;

    private final Row[] boxes;
    private final int[] causesMet;
    private final Hand hand;
    private int rowsMade;
    private int lastMoved;
    private long lastSeen;

    public DrillCores() {
        boxes = new Row[BOXES];
        causesMet = new int[SIZE + 1];
        hand = new Hand();
        rowsMade = 0;
        lastMoved = 0;
        lastSeen = 0L;
    }

    public int make(int box, int kind, int depth, int n) {
        if (!isBox(box) || !isKind(kind) || depth < 1 || depth > DEPTHS) {
            return BAD;
        }
        if (rowsMade >= MOST_ROWS || n > MOST_PLACES) {
            return FULL;
        }
        if (n < 0) {
            return met(SIZE);
        }
        boxes[box] = new Row(kind, depth, n);
        rowsMade++;
        return rowsMade - 1;
    }

    public int take(int box, int from) {
        if (!isBox(box) || !isBox(from)) {
            return BAD;
        }
        boxes[box] = boxes[from];
        return boxes[box] == null ? 0 : 1;
    }

    public int empty(int box) {
        if (!isBox(box)) {
            return BAD;
        }
        int held = boxes[box] == null ? 0 : 1;
        boxes[box] = null;
        return held;
    }

    public int same(int box, int other) {
        if (!isBox(box) || !isBox(other)) {
            return BAD;
        }
        return boxes[box] == boxes[other] ? 1 : 0;
    }

    public int look(int box, int s, int a, int b, int c) {
        if (!isBox(box) || !isSteps(s, 0, MOST_STEPS)) {
            return BAD;
        }
        int cause = walk(box, s, a, b, c);
        if (cause != NONE) {
            return met(cause);
        }
        if (hand.onNumber) {
            lastSeen = hand.number;
            return hand.kind;
        }
        Row row = hand.row;
        return row == null ? LOOKS_LIKE_NOTHING : row.kind + 10 * row.depth;
    }

    public int length(int box, int s, int a, int b, int c) {
        if (!isBox(box) || !isSteps(s, 0, MOST_STEPS)) {
            return BAD;
        }
        Row row = rowThere(box, s, a, b, c);
        return row == null ? met(hand.cause) : row.size;
    }

    public int read(int box, int s, int a, int b, int c, int kind) {
        if (!isBox(box) || !isSteps(s, 1, MOST_STEPS) || !isKind(kind)) {
            return BAD;
        }
        Row holder = rowThere(box, s - 1, a, b, c);
        if (holder == null) {
            return met(hand.cause);
        }
        int place = placeOfStep(s, a, b, c);
        int cause = holder.causeToRead(place, kind);
        if (cause != NONE) {
            return met(cause);
        }
        lastSeen = Numbers.asKind(holder.numbers[place], holder.kind, kind);
        return 1;
    }

    public int write(int box, int s, int a, int b, int c, int kind, long bits) {
        if (!isBox(box) || !isSteps(s, 1, MOST_STEPS) || !isKind(kind)) {
            return BAD;
        }
        Row holder = rowThere(box, s - 1, a, b, c);
        if (holder == null) {
            return met(hand.cause);
        }
        int place = placeOfStep(s, a, b, c);
        int cause = holder.causeToWrite(place, kind);
        if (cause != NONE) {
            return met(cause);
        }
        holder.numbers[place] = Numbers.asKind(Numbers.told(kind, bits), kind, holder.kind);
        return 1;
    }

    public int hang(int box, int s, int a, int b, int c, int from) {
        if (!isBox(box) || !isSteps(s, 1, MOST_STEPS) || !isBox(from)) {
            return BAD;
        }
        Row holder = rowThere(box, s - 1, a, b, c);
        if (holder == null) {
            return met(hand.cause);
        }
        int place = placeOfStep(s, a, b, c);
        int cause = holder.causeToHang(place, boxes[from]);
        if (cause != NONE) {
            return met(cause);
        }
        holder.rows[place] = boxes[from];
        return 1;
    }

    public int lift(int box, int s, int a, int b, int c, int to) {
        if (!isBox(box) || !isSteps(s, 1, MOST_STEPS) || !isBox(to)) {
            return BAD;
        }
        int cause = walk(box, s, a, b, c);
        if (cause == NONE && hand.onNumber) {
            cause = NO_ROW;
        }
        if (cause != NONE) {
            return met(cause);
        }
        boxes[to] = hand.row;
        return boxes[to] == null ? 0 : 1;
    }

    public int turn(int box, int s, int a, int b, int i, int j) {
        if (!isBox(box) || !isSteps(s, 0, MOST_STEPS - 1)) {
            return BAD;
        }
        Row row = rowThere(box, s, a, b, 0);
        if (row == null) {
            return met(hand.cause);
        }
        if (!row.hasPlace(i) || !row.hasPlace(j)) {
            return met(PLACE);
        }
        row.exchange(i, j);
        return 1;
    }

    public int fill(int box, int s, int a, int b, int kind, long bits) {
        if (!isBox(box) || !isSteps(s, 0, MOST_STEPS - 1) || !isKind(kind)) {
            return BAD;
        }
        Row row = rowThere(box, s, a, b, 0);
        if (row == null) {
            return met(hand.cause);
        }
        // A ROW without PLACES is never written to, so nothing about it can be wrong.
        if (row.size == 0) {
            return 0;
        }
        int cause = row.causeToWrite(0, kind);
        if (cause != NONE) {
            return met(cause);
        }
        long number = Numbers.asKind(Numbers.told(kind, bits), kind, row.kind);
        for (int place = 0; place < row.numbers.length; place++) {
            row.numbers[place] = number;
        }
        return row.size;
    }

    public int pour(int box, int to) {
        if (!isBox(box) || !isBox(to)) {
            return BAD;
        }
        lastMoved = 0;
        Row source = boxes[box];
        Row target = boxes[to];
        if (source == null || target == null) {
            return met(NOTHING);
        }
        for (int place = 0; place < source.size; place++) {
            int cause = target.causeToPour(place, source);
            if (cause != NONE) {
                return met(cause);
            }
            target.pourIn(place, source);
            lastMoved++;
        }
        return lastMoved;
    }

    public int moved() {
        return lastMoved;
    }

    public int total(int box, int s, int a, int b) {
        if (!isBox(box) || !isSteps(s, 0, MOST_STEPS - 1)) {
            return BAD;
        }
        Row row = rowThere(box, s, a, b, 0);
        if (row == null) {
            return met(hand.cause);
        }
        // All ROWS in a ROW are of its KIND: if one number does not fit, it is the first one.
        if (!Numbers.goesInto(row.kind, Numbers.LONGS) && numbersIn(row, DEPTHS) > 0) {
            return met(MISFIT);
        }
        lastSeen = sumOf(row, DEPTHS);
        return 1;
    }

    public int count(int box, int s, int a, int b) {
        if (!isBox(box) || !isSteps(s, 0, MOST_STEPS - 1)) {
            return BAD;
        }
        Row row = rowThere(box, s, a, b, 0);
        return row == null ? met(hand.cause) : numbersIn(row, DEPTHS);
    }

    public long seen() {
        return lastSeen;
    }

    public int about(int what) {
        if (what < ABOUT_MADE || what > ABOUT_BOXES) {
            return BAD;
        }
        if (what == ABOUT_MADE) {
            return rowsMade;
        }
        return what == ABOUT_BOXES ? boxesInUse() : causesMet[what];
    }

    private int boxesInUse() {
        int used = 0;
        for (int box = 0; box < BOXES; box++) {
            if (boxes[box] != null) {
                used++;
            }
        }
        return used;
    }

    private int met(int cause) {
        causesMet[cause]++;
        return -10 - cause;
    }

    private static boolean isBox(int box) {
        return box >= 0 && box < BOXES;
    }

    private static boolean isKind(int kind) {
        return kind >= Numbers.TRUTHS && kind <= Numbers.DOUBLES;
    }

    private static boolean isSteps(int s, int least, int most) {
        return s >= least && s <= most;
    }

    private static int placeOfStep(int step, int a, int b, int c) {
        if (step == 1) {
            return a;
        }
        return step == 2 ? b : c;
    }

    /** Leads the hand along a PATH as far as it goes, and answers the CAUSE that stopped it. */
    private int walk(int box, int s, int a, int b, int c) {
        hand.startAt(boxes[box]);
        for (int step = 1; step <= s && hand.cause == NONE; step++) {
            hand.stepTo(placeOfStep(step, a, b, c));
        }
        return hand.cause;
    }

    /** The ROW that a PATH comes to; null if there is none, and hand.cause is why. */
    private Row rowThere(int box, int s, int a, int b, int c) {
        walk(box, s, a, b, c);
        hand.wantRow();
        return hand.cause == NONE ? hand.row : null;
    }

    private static int numbersIn(Row row, int levels) {
        if (row == null || levels < 1) {
            return 0;
        }
        int found = row.numbers.length;
        for (int place = 0; place < row.rows.length; place++) {
            found += numbersIn(row.rows[place], levels - 1);
        }
        return found;
    }

    private static long sumOf(Row row, int levels) {
        if (row == null || levels < 1) {
            return 0L;
        }
        long sum = 0L;
        for (int place = 0; place < row.numbers.length; place++) {
            sum += row.numbers[place];
        }
        for (int place = 0; place < row.rows.length; place++) {
            sum += sumOf(row.rows[place], levels - 1);
        }
        return sum;
    }

    /** What goes down a PATH: it is at a ROW, at NOTHING (row is null) or on a number. */
    private static final class Hand {
        Row row;
        boolean onNumber;
        int kind;
        long number;
        int cause;

        void startAt(Row held) {
            row = held;
            onNumber = false;
            cause = NONE;
        }

        void stepTo(int place) {
            wantRow();
            Row from = row;
            if (cause != NONE || from == null) {
                return;
            }
            if (!from.hasPlace(place)) {
                cause = PLACE;
            } else if (from.hasNumbers()) {
                onNumber = true;
                kind = from.kind;
                number = from.numbers[place];
                row = null;
            } else {
                row = from.rows[place];
            }
        }

        /** An earlier CAUSE stays: the one that is met first is told. */
        void wantRow() {
            if (cause == NONE && row == null) {
                cause = onNumber ? NO_ROW : NOTHING;
            }
        }
    }

    /** Of its two arrays the one that its DEPTH has no use for is empty, so neither is null. */
    private static final class Row {
        final int kind;
        final int depth;
        final int size;
        final long[] numbers;
        final Row[] rows;

        /** Wants a size that is not below 0. */
        Row(int kind, int depth, int size) {
            this.kind = kind;
            this.depth = depth;
            this.size = size;
            numbers = new long[depth == 1 ? size : 0];
            rows = new Row[depth == 1 ? 0 : size];
        }

        boolean hasNumbers() {
            return depth == 1;
        }

        boolean hasPlace(int place) {
            return place >= 0 && place < size;
        }

        int causeToRead(int place, int asKind) {
            return causeAtNumber(place, kind, asKind);
        }

        int causeToWrite(int place, int ofKind) {
            return causeAtNumber(place, ofKind, kind);
        }

        private int causeAtNumber(int place, int fromKind, int toKind) {
            if (!hasNumbers()) {
                return NO_ROW;
            }
            if (!hasPlace(place)) {
                return PLACE;
            }
            return Numbers.goesInto(fromKind, toKind) ? NONE : MISFIT;
        }

        int causeToHang(int place, Row hung) {
            if (hasNumbers() && hung == null) {
                return MISFIT;
            }
            if (!hasPlace(place)) {
                return PLACE;
            }
            if (hung == null) {
                return NONE;
            }
            return hung.kind == kind && hung.depth == depth - 1 ? NONE : MISFIT;
        }

        /** Wants a PLACE that the source has. */
        int causeToPour(int place, Row source) {
            if (!source.hasNumbers()) {
                return causeToHang(place, source.rows[place]);
            }
            if (!hasPlace(place)) {
                return PLACE;
            }
            return hasNumbers() && Numbers.goesInto(source.kind, kind) ? NONE : MISFIT;
        }

        /** Wants a PLACE that causeToPour() found no fault with. */
        void pourIn(int place, Row source) {
            if (hasNumbers()) {
                numbers[place] = Numbers.asKind(source.numbers[place], source.kind, kind);
            } else {
                rows[place] = source.rows[place];
            }
        }

        /** Wants two PLACES that the ROW has. */
        void exchange(int i, int j) {
            if (hasNumbers()) {
                long number = numbers[i];
                numbers[i] = numbers[j];
                numbers[j] = number;
            } else {
                Row row = rows[i];
                rows[i] = rows[j];
                rows[j] = row;
            }
        }
    }

    /**
     * Numbers of every KIND are kept as they are told, as longs; floats and doubles are worked
     * on by their BITS alone, because the language part has no way from a float to its BITS.
     */
    private static final class Numbers {
        static final int TRUTHS = 0;
        static final int BYTES = 1;
        static final int SHORTS = 2;
        static final int CHARS = 3;
        static final int INTS = 4;
        static final int LONGS = 5;
        static final int FLOATS = 6;
        static final int DOUBLES = 7;

        static final long NO_FLOAT = 2143289344L;
        static final long NO_DOUBLE = 9221120237041090560L;

        static final int FLOAT_FRACTION = 23;
        static final int FLOAT_BIAS = 127;
        static final int FLOAT_SIGN = 31;
        static final long FLOAT_ENDLESS = 0x7f800000L;
        static final int FLOAT_LEAST = -149;
        static final int DOUBLE_FRACTION = 52;
        static final int DOUBLE_BIAS = 1023;
        static final int DOUBLE_SIGN = 63;
        static final long DOUBLE_ENDLESS = 0x7ff0000000000000L;

        static boolean goesInto(int kind, int other) {
            if (kind == other) {
                return true;
            }
            if (kind == TRUTHS) {
                return false;
            }
            if (kind == BYTES && other == SHORTS) {
                return true;
            }
            return other >= INTS && other > kind;
        }

        /** A number of a KIND, by whatever BITS were given for it. */
        static long told(int kind, long bits) {
            switch (kind) {
                case TRUTHS:
                    return bits & 1L;
                case BYTES:
                    return (byte) bits;
                case SHORTS:
                    return (short) bits;
                case CHARS:
                    return (char) bits;
                case INTS:
                    return (int) bits;
                case FLOATS:
                    return (bits & lowBits(FLOAT_SIGN)) > FLOAT_ENDLESS ? NO_FLOAT : (int) bits;
                case DOUBLES:
                    return (bits & lowBits(DOUBLE_SIGN)) > DOUBLE_ENDLESS ? NO_DOUBLE : bits;
                default:
                    return bits;
            }
        }

        /** Wants a KIND that goes into the other one. */
        static long asKind(long number, int kind, int other) {
            if (kind == other || other < FLOATS) {
                return number;
            }
            if (kind == FLOATS) {
                return doubleOfFloat(number);
            }
            return other == FLOATS ? nearestFloat(number) : nearestDouble(number);
        }

        private static long nearestFloat(long whole) {
            long bits = nearest(sizeOf(whole), FLOAT_FRACTION, FLOAT_BIAS);
            return withSign(bits, whole < 0L, FLOAT_SIGN);
        }

        private static long nearestDouble(long whole) {
            long bits = nearest(sizeOf(whole), DOUBLE_FRACTION, DOUBLE_BIAS);
            return withSign(bits, whole < 0L, DOUBLE_SIGN);
        }

        private static long doubleOfFloat(long number) {
            long unsigned = number & lowBits(FLOAT_SIGN);
            if (unsigned > FLOAT_ENDLESS) {
                return NO_DOUBLE;
            }
            long exponent = unsigned >>> FLOAT_FRACTION;
            long fraction = unsigned & lowBits(FLOAT_FRACTION);
            long bits;
            if (unsigned == FLOAT_ENDLESS) {
                bits = DOUBLE_ENDLESS;
            } else if (exponent == 0L) {
                // Floats too small for an exponent of their own have one as doubles.
                bits = nearest(fraction, DOUBLE_FRACTION, DOUBLE_BIAS + FLOAT_LEAST);
            } else {
                bits = (exponent - FLOAT_BIAS + DOUBLE_BIAS << DOUBLE_FRACTION)
                        + (fraction << DOUBLE_FRACTION - FLOAT_FRACTION);
            }
            return withSign(bits, number < 0L, DOUBLE_SIGN);
        }

        /** The least long wraps to itself, which is its size if read without a sign. */
        private static long sizeOf(long whole) {
            return whole < 0L ? -whole : whole;
        }

        /**
         * BITS of the float or double nearest to a size that is read without a sign. The size's
         * top bit is left in the fraction, where it adds the 1 that the exponent lacks; a round
         * up that makes one bit more is carried into the exponent the same way.
         */
        private static long nearest(long size, int fractionBits, int bias) {
            if (size == 0L) {
                return 0L;
            }
            int top = 63 - Long.numberOfLeadingZeros(size);
            long fraction = top <= fractionBits
                    ? size << fractionBits - top
                    : roundedOff(size, top - fractionBits);
            return ((long) (top + bias - 1) << fractionBits) + fraction;
        }

        /** Wants 1 .. 40 bits to drop. */
        private static long roundedOff(long size, int dropped) {
            long kept = size >>> dropped;
            long rest = size & lowBits(dropped);
            long half = 1L << dropped - 1;
            boolean up = rest > half || rest == half && (kept & 1L) == 1L;
            return up ? kept + 1L : kept;
        }

        private static long lowBits(int n) {
            return (1L << n) - 1L;
        }

        /** All bits from the sign's on are set, so that a float's BITS are told with their sign. */
        private static long withSign(long bits, boolean negative, int signBit) {
            return negative ? bits | -1L << signBit : bits;
        }
    }
}
