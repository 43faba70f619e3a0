/** Terms: the CAUSES, which of several is met first, and what a refused call leaves as it was. */
final class CauseEdges {
    private final Sentences s;

    CauseEdges(Sentences s) {
        this.s = s;
    }

    void all() {
        metFirst();
        stepsAtNothing();
        stepsAtNumbers();
        stepsToNoPlace();
        misfit();
        size();
        toRead();
        toWrite();
        toHang();
        answersAndChangesNothing();
        bad();
        full();
    }

    private void looks(int want, int box, int steps, int a, int b, int c) {
        String path = "(" + box + ", " + steps + ", " + a + ", " + b + ", " + c + ")";
        Hall.refuses(s, "look" + path, want, x -> x.look(box, steps, a, b, c));
        Hall.refuses(s, "length" + path, want, x -> x.length(box, steps, a, b, c));
        if (steps > 0) {
            Hall.refuses(s, "lift" + path, want, x -> x.lift(box, steps, a, b, c, 7));
        }
        if (steps < 3) {
            Hall.refuses(s, "turn" + path, want, x -> x.turn(box, steps, a, b, 99, 99));
            Hall.refuses(s, "fill" + path, want, x -> x.fill(box, steps, a, b, 0, 5));
            Hall.refuses(s, "total" + path, want, x -> x.total(box, steps, a, b));
            Hall.refuses(s, "count" + path, want, x -> x.count(box, steps, a, b));
        }
    }

    private void metFirst() {
        s.of("Terms", "CAUSES, of several the one that is met first:");
        looks(Cause.PLACE, 0, 3, 3, 99, 99);
        looks(Cause.PLACE, 0, 3, 0, 3, 99);
        looks(Cause.NOTHING, 0, 3, 1, 99, 99);
        looks(Cause.NOTHING, 9, 3, 99, 99, 99);
        looks(Cause.NO_ROW, 2, 3, 0, 99, 99);
        looks(Cause.PLACE, 2, 3, 3, 0, 0);
        Hall.refuses(s, "a step to no place, then no kind that fits", Cause.PLACE, x -> x.read(0, 2, 3, 0, 0, 0));
        Hall.refuses(s, "a step at NOTHING, then no kind that fits", Cause.NOTHING, x -> x.write(0, 3, 0, 1, 99, 7, 1));
        Hall.refuses(s, "a step to no place, then no row that fits", Cause.PLACE, x -> x.hang(0, 2, 3, 99, 0, 4));
    }

    private void stepsAtNothing() {
        s.of("Terms", "a STEP at NOTHING: 1 NOTHING;");
        looks(Cause.NOTHING, 9, 1, 0, 0, 0);
        looks(Cause.NOTHING, 8, 2, 0, 0, 0);
        looks(Cause.NOTHING, 0, 2, 1, 0, 0);
        looks(Cause.NOTHING, 1, 2, 1, -1, 0);
        looks(Cause.NOTHING, 0, 3, 2, 1, 0);
        s.is("NOTHING there is no step at it", 40, Hall.build().look(0, 2, 0, 1, 0));
    }

    private void stepsAtNumbers() {
        s.of("Terms", "at a number: 2 NO ROW;");
        looks(Cause.NO_ROW, 2, 2, 0, 0, 0);
        looks(Cause.NO_ROW, 2, 2, 2, -1, 0);
        looks(Cause.NO_ROW, 1, 3, 0, 0, 0);
        looks(Cause.NO_ROW, 2, 3, 0, 0, 0);
        looks(Cause.NO_ROW, 5, 2, 0, 0, 0);
        s.is("a number there is no step at it", 4, Hall.build().look(0, 3, 0, 0, 0));
    }

    private void stepsToNoPlace() {
        s.of("Terms", "to a PLACE that is none: 3 PLACE.");
        int[][] none = {{0, 1, 3, 0, 0}, {0, 1, -1, 0, 0}, {0, 2, 0, 3, 0}, {0, 2, 2, -1, 0}, {0, 3, 0, 0, 3},
            {0, 3, 0, 2, 2}, {0, 3, 0, 0, -1}, {2, 1, 3, 0, 0}, {2, 1, -1, 0, 0}, {7, 1, 4, 0, 0}, {6, 1, 0, 0, 0},
            {6, 1, -1, 0, 0}, {0, 1, Integer.MIN_VALUE, 0, 0}, {0, 1, Integer.MAX_VALUE, 0, 0}};
        for (int[] n : none) {
            looks(Cause.PLACE, n[0], n[1], n[2], n[3], n[4]);
        }
        int[][] some = {{0, 1, 0, 0, 0}, {0, 1, 2, 0, 0}, {0, 2, 0, 0, 0}, {0, 2, 2, 2, 0}, {0, 3, 0, 0, 2},
            {0, 3, 0, 2, 1}, {0, 3, 0, 0, 0}, {2, 1, 2, 0, 0}, {2, 1, 0, 0, 0}, {7, 1, 3, 0, 0}};
        int[] there = {24, 24, 14, 14, 4, 4, 4, 4, 4, 1};
        for (int i = 0; i < some.length; i++) {
            int[] p = some[i];
            s.is("the place beside it", there[i], Hall.build().look(p[0], p[1], p[2], p[3], p[4]));
        }
    }

    private void misfit() {
        s.of("Terms", "4 MISFIT.");
        Hall.refuses(s, "read", -14, x -> x.read(2, 1, 0, 0, 0, 3));
        Hall.refuses(s, "write", -14, x -> x.write(2, 1, 0, 0, 0, 5, 1));
        Hall.refuses(s, "hang", -14, x -> x.hang(1, 1, 0, 0, 0, 4));
        Hall.refuses(s, "fill", -14, x -> x.fill(2, 0, 0, 0, 5, 1));
        Hall.refuses(s, "total", -14, x -> x.total(5, 0, 0, 0));
    }

    private void size() {
        s.of("Terms", "5 SIZE.");
        Hall.refuses(s, "make", -15, x -> x.make(2, 4, 1, -1));
        s.is("beside it", 8, Hall.build().make(2, 4, 1, 0));
    }

    private void reads(int want, int[] path, int kind) {
        String text = "read(" + path[0] + ", " + path[1] + ", " + path[2] + ", " + path[3] + ", " + path[4] + ", " + kind + ")";
        Hall.refuses(s, text, want, x -> x.read(path[0], path[1], path[2], path[3], path[4], kind));
    }

    private void writes(int want, int[] path, int kind) {
        String text = "write(" + path[0] + ", " + path[1] + ", " + path[2] + ", " + path[3] + ", " + path[4] + ", " + kind + ")";
        Hall.refuses(s, text, want, x -> x.write(path[0], path[1], path[2], path[3], path[4], kind, 50));
    }

    private static final int[][] HOLDER_IS_NOTHING = {
        {9, 1, 0, 0, 0}, {9, 1, 99, 0, 0}, {0, 2, 1, 0, 0}, {0, 2, 1, -1, 0}, {0, 3, 0, 1, 0}, {0, 3, 2, 1, 99}};
    private static final int[][] HOLDER_IS_A_NUMBER = {
        {2, 2, 0, 0, 0}, {2, 2, 2, 99, 0}, {1, 3, 0, 0, 0}, {1, 3, 2, 1, -1}};
    private static final int[][] HOLDER_HAS_ROWS = {
        {0, 1, 0, 0, 0}, {0, 1, 1, 0, 0}, {0, 1, 3, 0, 0}, {0, 1, -1, 0, 0}, {1, 1, 0, 0, 0}, {0, 2, 0, 0, 0},
        {0, 2, 0, 3, 0}, {0, 2, 0, -1, 0}, {6, 1, 0, 0, 0}};
    private static final int[][] NO_SUCH_PLACE = {
        {2, 1, 3, 0, 0}, {2, 1, -1, 0, 0}, {1, 2, 2, 2, 0}, {1, 2, 0, -1, 0}, {0, 3, 0, 0, 3}, {0, 3, 0, 0, -1},
        {2, 1, Integer.MAX_VALUE, 0, 0}, {2, 1, Integer.MIN_VALUE, 0, 0}};
    private static final int[][] PLACE_BESIDE = {
        {2, 1, 2, 0, 0}, {2, 1, 0, 0, 0}, {1, 2, 2, 1, 0}, {1, 2, 0, 0, 0}, {0, 3, 0, 0, 2}, {0, 3, 0, 0, 0}};

    private void toRead() {
        s.of("Terms", "TO READ a HOLDER's PLACE as a KIND: NOTHING;");
        for (int[] path : HOLDER_IS_NOTHING) {
            reads(Cause.NOTHING, path, 4);
            reads(Cause.NOTHING, path, 0);
        }
        s.of("Terms", "NO ROW (also when the HOLDER has ROWS in its PLACES);");
        for (int[][] paths : new int[][][] {HOLDER_IS_A_NUMBER, HOLDER_HAS_ROWS}) {
            for (int[] path : paths) {
                reads(Cause.NO_ROW, path, 4);
                reads(Cause.NO_ROW, path, 0);
            }
        }
        s.of("Terms", "PLACE; MISFIT: its KIND does not go into that one.");
        for (int[] path : NO_SUCH_PLACE) {
            reads(Cause.PLACE, path, 4);
            reads(Cause.PLACE, path, 0);
        }
        for (int[] path : PLACE_BESIDE) {
            for (int kind = 0; kind <= 3; kind++) {
                reads(Cause.MISFIT, path, kind);
            }
            for (int kind = 4; kind <= 7; kind++) {
                s.is("read as " + kind, 1, Hall.build().read(path[0], path[1], path[2], path[3], path[4], kind));
            }
        }
    }

    private void toWrite() {
        s.of("Terms", "TO WRITE a number of a KIND there: the same, but MISFIT: that KIND does not go into the HOLDER's.");
        for (int kind : new int[] {4, 0}) {
            for (int[] path : HOLDER_IS_NOTHING) {
                writes(Cause.NOTHING, path, kind);
            }
            for (int[] path : HOLDER_IS_A_NUMBER) {
                writes(Cause.NO_ROW, path, kind);
            }
            for (int[] path : HOLDER_HAS_ROWS) {
                writes(Cause.NO_ROW, path, kind);
            }
            for (int[] path : NO_SUCH_PLACE) {
                writes(Cause.PLACE, path, kind);
            }
        }
        for (int[] path : PLACE_BESIDE) {
            for (int kind : new int[] {0, 5, 6, 7}) {
                writes(Cause.MISFIT, path, kind);
            }
            for (int kind = 1; kind <= 4; kind++) {
                s.is("write of " + kind, 1, Hall.build().write(path[0], path[1], path[2], path[3], path[4], kind, 5));
            }
        }
    }

    private void hangs(int want, int from, int... path) {
        String text = "hang(" + path[0] + ", " + path[1] + ", " + path[2] + ", " + path[3] + ", " + path[4] + ", " + from + ")";
        Hall.refuses(s, text, want, x -> x.hang(path[0], path[1], path[2], path[3], path[4], from));
    }

    private void toHang() {
        s.of("Terms", "TO HANG what a BOX holds into a HOLDER's PLACE: NOTHING;");
        for (int[] path : HOLDER_IS_NOTHING) {
            hangs(Cause.NOTHING, 3, path);
            hangs(Cause.NOTHING, 8, path);
        }
        s.of("Terms", "NO ROW: the HOLDER is a number;");
        for (int[] path : HOLDER_IS_A_NUMBER) {
            hangs(Cause.NO_ROW, 3, path);
            hangs(Cause.NO_ROW, 8, path);
        }
        s.of("Terms", "then, when the HOLDER has numbers, MISFIT (if the BOX holds NOTHING, ahead of PLACE; if a ROW, behind it);");
        for (int[] path : PLACE_BESIDE) {
            hangs(Cause.MISFIT, 8, path);
            hangs(Cause.MISFIT, 3, path);
        }
        for (int[] path : NO_SUCH_PLACE) {
            hangs(Cause.MISFIT, 8, path);
            hangs(Cause.PLACE, 3, path);
        }
        numbersWithoutPlaces();
        toHangIntoRows();
    }

    private void numbersWithoutPlaces() {
        DrillCores x = new DrillCores();
        x.make(0, 4, 1, 0);
        s.is("NOTHING into numbers, of which there are none", Cause.MISFIT, x.hang(0, 1, 0, 0, 0, 9));
        s.is("a row into numbers, of which there are none", Cause.PLACE, x.hang(0, 1, 0, 0, 0, 0));
    }

    private void toHangIntoRows() {
        s.of("Terms", "when it has ROWS: PLACE, MISFIT: a ROW of another KIND or DEPTH than its PLACES have.");
        int[] sides = {-1, 3, Integer.MIN_VALUE, Integer.MAX_VALUE};
        for (int place : sides) {
            for (int from : new int[] {0, 1, 3, 4, 8}) {
                hangs(Cause.PLACE, from, 0, 1, place, 0, 0);
                hangs(Cause.PLACE, from, 0, 2, 0, place, 0);
            }
        }
        hangs(Cause.PLACE, 3, 6, 1, 0, 0, 0);
        hangs(Cause.PLACE, 8, 6, 1, 0, 0, 0);
        for (int place = 0; place < 3; place++) {
            for (int from : new int[] {0, 2, 3, 4, 5, 7}) {
                hangs(Cause.MISFIT, from, 0, 1, place, 0, 0);
            }
            for (int from : new int[] {0, 1, 4, 5, 6, 7}) {
                hangs(Cause.MISFIT, from, 1, 1, place, 0, 0);
            }
            s.is("depth 2 into depth 3", 1, Hall.build().hang(0, 1, place, 0, 0, 6));
            s.is("depth 1 into depth 2", 1, Hall.build().hang(1, 1, place, 0, 0, 3));
            s.is("NOTHING into rows", 1, Hall.build().hang(0, 1, place, 0, 0, 8));
        }
    }

    private void answersAndChangesNothing() {
        s.of("Terms", "A call that meets a CAUSE answers -10 less it, and changes nothing but as told.");
        Hall.isAsTold(s);
        Hall.refuses(s, "1", -11, x -> x.length(9, 0, 0, 0, 0));
        Hall.refuses(s, "2", -12, x -> x.length(2, 1, 0, 0, 0));
        Hall.refuses(s, "3", -13, x -> x.length(0, 1, 3, 0, 0));
        Hall.refuses(s, "4", -14, x -> x.hang(2, 1, 0, 0, 0, 9));
        Hall.refuses(s, "5", -15, x -> x.make(2, 4, 1, Integer.MIN_VALUE));
        Hall.alike(s, "as told: what came ahead of the cause, and moved()", x -> x.pour(2, 3),
                x -> pouredByHand(x), 3);
    }

    /** Box 2's first two ints in box 3, which has no third place. */
    private static long pouredByHand(DrillCores x) {
        Hall.put(x, 3, 4, 7, -8);
        return x.pour(5, 5);
    }

    private void bad() {
        s.of("Terms", "BAD: a number names nothing (a BOX, KIND, DEPTH, STEPS);");
        s.is("BAD", -1, DrillCores.BAD);
        BadNumbers.named(s, "");
    }

    private void full() {
        s.of("Terms", "FULL: as told; both ahead of all CAUSES: they change nothing.");
        s.is("FULL", -2, DrillCores.FULL);
        BadNumbers.aheadOfCauses(s);
        Hall.refuses(s, "make of 9 places", -2, x -> x.make(2, 4, 1, 9));
        for (int n : new int[] {-1, 0, 8, 9}) {
            DrillCores x = full120();
            s.is("make of " + n + " places behind 120", -2, x.make(0, 4, 1, n));
            s.is("no cause met", 0, x.about(5));
            s.is("none made", 120, x.about(0));
            s.is("the box has what it had", 37, x.look(0, 0, 0, 0, 0));
        }
    }

    static DrillCores full120() {
        DrillCores x = new DrillCores();
        for (int i = 0; i < 120; i++) {
            x.make(i % 10, 7, 3, 1);
        }
        return x;
    }
}
