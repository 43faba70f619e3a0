/** Long runs of calls, the same in every run of this test, beside Java's own arrays. */
public final class ArraysTest {
    private static final int RUNS = 3000;
    private static final int CALLS = 512;
    private static final long[] SOME_BITS = {0, 1, -1, 127, 128, 255, 32768, 65535, 16777217, 16777219,
        (1L << 53) + 1, (1L << 53) + 3, Long.MAX_VALUE, Long.MIN_VALUE, 0x3fc00000L, 0x7f800001L, 0xffc00001L, 0x80000000L,
        0x7ff0000000000001L, 0xfff8000000000001L, 0x4008000000000000L};
    private static final int[] WILD = {-1, 8, 9, 10, 4, 120, Integer.MIN_VALUE, Integer.MAX_VALUE};

    private final Due due = new Due();
    private final int[] answers = new int[16];
    private long state;
    private int favourite;
    private int want;
    private int got;

    public static void main(String[] args) {
        new ArraysTest().all();
    }

    private void all() {
        for (int run = 0; run < RUNS && due.wrong() == 0; run++) {
            state = 0x9e3779b97f4a7c15L * (run + 1);
            favourite = run % 9;
            oneRun(run);
        }
        for (int answer : new int[] {DrillCores.BAD, DrillCores.FULL, Cause.NOTHING, Cause.NO_ROW, Cause.PLACE,
            Cause.MISFIT, Cause.SIZE}) {
            due.holds("the runs come to " + answer, answers[-answer] > 500);
        }
        due.end();
    }

    private int below(int n) {
        state = state * 6364136223846793005L + 1442695040888963407L;
        return (int) ((state >>> 33) % n);
    }

    private int mostly(int low, int n) {
        return below(60) == 0 ? WILD[below(WILD.length)] : low + below(n);
    }

    private int box() {
        return mostly(0, 10);
    }

    /** Rows of one kind hang into one another, so most runs have a kind that they take more often. */
    private int kind() {
        return favourite == 8 || below(3) == 0 ? mostly(0, 8) : favourite;
    }

    private int place() {
        return mostly(0, 4);
    }

    private long bits() {
        return below(2) == 0 ? SOME_BITS[below(SOME_BITS.length)] : ((long) below(1 << 30) << 34) ^ below(1 << 30);
    }

    private void oneRun(int run) {
        DrillCores x = new DrillCores();
        ArraysModel y = new ArraysModel();
        int calls = 0;
        while (calls < CALLS - 11) {
            String call = oneCall(x, y);
            due.is("run " + run + ", call " + calls + ": " + call, want, got);
            due.is("run " + run + ", call " + calls + ": " + call + ", then seen()", y.seen(), x.seen());
            calls += 2;
            if (got < 0 && got > -16) {
                answers[-got]++;
            }
        }
        due.is("run " + run + ": moved()", y.moved(), x.moved());
        for (int what = -1; what <= 7; what++) {
            due.is("run " + run + ": about(" + what + ")", y.about(what), x.about(what));
        }
    }

    private String answered(String call, int fromModel, int fromClass) {
        want = fromModel;
        got = fromClass;
        return call;
    }

    private String oneCall(DrillCores x, ArraysModel y) {
        int box = box();
        int other = box();
        int a = place();
        int b = place();
        int c = place();
        int kind = kind();
        long bits = bits();
        switch (below(21)) {
            case 0: case 1: case 2:
                int depth = mostly(1, 3);
                int n = below(8) == 0 ? mostly(-1, 11) : 1 + below(4);
                return answered("make " + box + " " + kind + " " + depth + " " + n,
                        y.make(box, kind, depth, n), x.make(box, kind, depth, n));
            case 3:
                return answered("take " + box + " " + other, y.take(box, other), x.take(box, other));
            case 4:
                if (below(4) != 0) {
                    return answered("moved", y.moved(), x.moved());
                }
                return answered("empty " + box, y.empty(box), x.empty(box));
            case 5:
                return answered("same " + box + " " + other, y.same(box, other), x.same(box, other));
            default:
                return byPath(x, y, new int[] {box, a, b, c, other, kind}, bits);
        }
    }

    private String byPath(DrillCores x, ArraysModel y, int[] p, long bits) {
        int s = mostly(0, 4);
        int t = mostly(1, 3);
        int u = mostly(0, 3);
        String path = " " + p[0] + " steps " + s + "/" + t + "/" + u + " to " + p[1] + " " + p[2] + " " + p[3]
                + " other " + p[4] + " kind " + p[5] + " bits " + bits;
        switch (below(14)) {
            case 0:
                return answered("look" + path, y.look(p[0], s, p[1], p[2], p[3]), x.look(p[0], s, p[1], p[2], p[3]));
            case 1:
                return answered("length" + path, y.length(p[0], s, p[1], p[2], p[3]), x.length(p[0], s, p[1], p[2], p[3]));
            case 2:
                return answered("read" + path, y.read(p[0], t, p[1], p[2], p[3], p[5]), x.read(p[0], t, p[1], p[2], p[3], p[5]));
            case 3: case 4:
                return answered("write" + path, y.write(p[0], t, p[1], p[2], p[3], p[5], bits),
                        x.write(p[0], t, p[1], p[2], p[3], p[5], bits));
            case 5: case 6: case 7:
                return answered("hang" + path, y.hang(p[0], t, p[1], p[2], p[3], p[4]), x.hang(p[0], t, p[1], p[2], p[3], p[4]));
            case 8:
                return answered("lift" + path, y.lift(p[0], t, p[1], p[2], p[3], p[4]), x.lift(p[0], t, p[1], p[2], p[3], p[4]));
            case 9:
                return answered("turn" + path, y.turn(p[0], u, p[1], p[2], p[3], p[5]), x.turn(p[0], u, p[1], p[2], p[3], p[5]));
            case 10:
                return answered("fill" + path, y.fill(p[0], u, p[1], p[2], p[5], bits), x.fill(p[0], u, p[1], p[2], p[5], bits));
            case 11:
                return answered("pour" + path, y.pour(p[0], p[4]), x.pour(p[0], p[4]));
            case 12:
                return answered("total" + path, y.total(p[0], u, p[1], p[2]), x.total(p[0], u, p[1], p[2]));
            default:
                return answered("count" + path, y.count(p[0], u, p[1], p[2]), x.count(p[0], u, p[1], p[2]));
        }
    }
}
