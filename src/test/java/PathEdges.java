/** Promises 6 to 11: look, length, read, write, hang, lift. */
final class PathEdges {
    /** In Hall: the CAUSE that the STEPS of a PATH meet, then box, s, a, b, c. */
    static final int[][] STEPS = {
        {Cause.NOTHING, 9, 1, 0, 0, 0}, {Cause.NOTHING, 0, 2, 1, 0, 0}, {Cause.NOTHING, 0, 3, 0, 1, 0},
        {Cause.NO_ROW, 2, 2, 0, 0, 0}, {Cause.NO_ROW, 1, 3, 0, 0, 0}, {Cause.NO_ROW, 2, 3, 0, 0, 0},
        {Cause.PLACE, 0, 1, 3, 0, 0}, {Cause.PLACE, 0, 1, -1, 0, 0}, {Cause.PLACE, 0, 2, 0, 3, 0},
        {Cause.PLACE, 0, 2, 0, -1, 0}, {Cause.PLACE, 0, 3, 0, 2, 2}, {Cause.PLACE, 0, 3, 0, 2, -1},
        {Cause.PLACE, 6, 1, 0, 0, 0}};

    private final Sentences s;

    PathEdges(Sentences s) {
        this.s = s;
    }

    void all() {
        look();
        length();
        read();
        write();
        hang();
        lift();
    }

    private void look() {
        s.of("Promise 6", "What is THERE: a number: its KIND, and it is SEEN; a ROW: its KIND and 10 times its DEPTH; 40: NOTHING.");
        DrillCores x = Hall.build();
        s.is("a number", 1, x.look(7, 1, 2, 0, 0));
        s.is("it is seen", -3, x.seen());
        s.is("a truth", 0, x.look(5, 1, 1, 0, 0));
        s.is("it is seen", 1, x.seen());
        s.is("a number that is 0", 0, x.look(5, 1, 0, 0, 0));
        s.is("it is seen", 0, x.seen());
        for (int kind = 0; kind <= 7; kind++) {
            for (int depth = 1; depth <= 3; depth++) {
                x.make(9, kind, depth, 0);
                s.is("a row", kind + 10 * depth, x.look(9, 0, 0, 0, 0));
            }
        }
        int[][] noNumbers = {{34, 0, 0, 0, 0, 0}, {24, 0, 1, 0, 0, 0}, {14, 0, 2, 0, 0, 0}, {40, 9, 0, 0, 0, 0},
            {40, 0, 1, 1, 0, 0}, {40, 0, 2, 2, 1, 0}};
        for (int[] p : noNumbers) {
            s.is("no number", p[0], Hall.build().look(p[1], p[2], p[3], p[4], p[5]));
            Hall.unchanged(s, "no number is seen", h -> h.look(p[1], p[2], p[3], p[4], p[5]));
        }
        s.of("Promise 6", "BAD.");
        BadNumbers.of(s, "look");
        s.of("Promise 6", "CAUSES of the STEPS.");
        for (int[] p : STEPS) {
            Hall.refuses(s, "look", p[0], h -> h.look(p[1], p[2], p[3], p[4], p[5]));
        }
    }

    private void length() {
        s.of("Promise 7", "How many PLACES the ROW THERE has.");
        for (int depth = 1; depth <= 3; depth++) {
            for (int n = 0; n <= 8; n++) {
                DrillCores x = new DrillCores();
                x.make(9, 3, depth, n);
                s.is("of " + n, n, x.length(9, 0, 0, 0, 0));
            }
        }
        int[][] rows = {{3, 0, 0, 0, 0}, {3, 0, 1, 2, 0}, {3, 0, 2, 0, 0}, {2, 0, 2, 0, 2}, {0, 6, 0, 0, 0}};
        for (int[] r : rows) {
            s.is("by a path", r[0], Hall.build().length(r[1], r[2], r[3], r[4], 99));
            Hall.unchanged(s, "length", h -> h.length(r[1], r[2], r[3], r[4], 99));
        }
        s.of("Promise 7", "BAD.");
        BadNumbers.of(s, "length");
        s.of("Promise 7", "CAUSES of the STEPS; NOTHING; NO ROW.");
        for (int[] p : STEPS) {
            Hall.refuses(s, "length", p[0], h -> h.length(p[1], p[2], p[3], p[4], p[5]));
        }
        Hall.refuses(s, "NOTHING in a box", Cause.NOTHING, h -> h.length(9, 0, 0, 0, 0));
        Hall.refuses(s, "NOTHING in a place", Cause.NOTHING, h -> h.length(0, 1, 1, 0, 0));
        Hall.refuses(s, "NOTHING in a place", Cause.NOTHING, h -> h.length(0, 2, 0, 1, 0));
        Hall.refuses(s, "a number", Cause.NO_ROW, h -> h.length(2, 1, 0, 0, 0));
        Hall.refuses(s, "a number", Cause.NO_ROW, h -> h.length(0, 3, 0, 0, 2));
    }

    private void read() {
        s.of("Promise 8", "THE PLACE (s 1 .. 3) is READ as a KIND, and it is SEEN: 1.");
        int[][] paths = {{2, 1, 0, 99, 99}, {1, 2, 0, 0, 99}, {0, 3, 2, 0, 0}};
        long[] sevenAs = {7, 7, 0x40e00000, 0x401c000000000000L};
        for (int[] p : paths) {
            for (int kind = 4; kind <= 7; kind++) {
                DrillCores x = Hall.build();
                s.is(p[1] + " steps, as " + kind, 1, x.read(p[0], p[1], p[2], p[3], p[4], kind));
                s.is(p[1] + " steps, as " + kind + ", seen", sevenAs[kind - 4], x.seen());
            }
        }
        DrillCores x = Hall.build();
        s.is("a number that is 0", 1, x.read(5, 1, 0, 0, 0, 0));
        s.is("it is seen", 0, x.seen());
        Hall.alike(s, "read is as look when the kind is its own", h -> h.read(2, 1, 2, 0, 0, 4), h -> h.look(2, 1, 2, 0, 0), 0);
        s.of("Promise 8", "BAD.");
        BadNumbers.of(s, "read");
        s.of("Promise 8", "CAUSES.");
        Hall.refuses(s, "NOTHING", Cause.NOTHING, h -> h.read(9, 1, 0, 0, 0, 4));
        Hall.refuses(s, "a step at a number", Cause.NO_ROW, h -> h.read(2, 2, 0, 0, 0, 4));
        Hall.refuses(s, "rows", Cause.NO_ROW, h -> h.read(1, 1, 0, 0, 0, 4));
        Hall.refuses(s, "PLACE", Cause.PLACE, h -> h.read(2, 1, 3, 0, 0, 4));
        Hall.refuses(s, "MISFIT", Cause.MISFIT, h -> h.read(2, 1, 2, 0, 0, 2));
    }

    private void write() {
        s.of("Promise 9", "A number of a KIND with these BITS is WRITTEN to THE PLACE (s 1 .. 3): 1.");
        int[][] paths = {{2, 1, 2, 99, 99}, {1, 2, 0, 2, 99}, {0, 3, 2, 0, 2}};
        for (int[] p : paths) {
            s.is(p[1] + " steps", 1, Hall.build().write(p[0], p[1], p[2], p[3], p[4], 1, 0x1fe));
            Hall.alike(s, p[1] + " steps", h -> h.write(p[0], p[1], p[2], p[3], p[4], 1, 0x1fe),
                    h -> h.write(2, 1, 2, 0, 0, 4, -2), 0);
            DrillCores x = Hall.build();
            x.write(p[0], p[1], p[2], p[3], p[4], 1, 0x1fe);
            s.is("it is not seen", -8, x.seen());
            x.look(2, 1, 2, 0, 0);
            s.is("it is there", -2, x.seen());
            x.look(2, 1, 1, 0, 0);
            s.is("the place beside it has what it had", -8, x.seen());
        }
        s.of("Promise 9", "BAD.");
        BadNumbers.of(s, "write");
        s.of("Promise 9", "CAUSES.");
        Hall.refuses(s, "NOTHING", Cause.NOTHING, h -> h.write(9, 1, 0, 0, 0, 4, 50));
        Hall.refuses(s, "a step at a number", Cause.NO_ROW, h -> h.write(2, 2, 0, 0, 0, 4, 50));
        Hall.refuses(s, "rows", Cause.NO_ROW, h -> h.write(1, 1, 0, 0, 0, 4, 50));
        Hall.refuses(s, "PLACE", Cause.PLACE, h -> h.write(2, 1, 3, 0, 0, 4, 50));
        Hall.refuses(s, "MISFIT", Cause.MISFIT, h -> h.write(2, 1, 2, 0, 0, 5, 50));
    }

    private void hang() {
        s.of("Promise 10", "What BOX from holds is HUNG into THE PLACE (s 1 .. 3): 1.");
        DrillCores x = Hall.build();
        s.is("one step", 1, x.hang(0, 1, 1, 99, 99, 6));
        s.is("one step, it is there", 24, x.look(0, 1, 1, 0, 0));
        s.is("one step, its places", 0, x.length(0, 1, 1, 0, 0));
        s.is("two steps", 1, x.hang(0, 2, 2, 1, 99, 2));
        x.lift(1, 1, 1, 0, 0, 9);
        s.is("two steps, that row", 1, x.same(9, 2));
        s.is("the box has it still", 14, x.look(2, 0, 0, 0, 0));
        s.is("NOTHING over a row", 1, x.hang(1, 1, 0, 0, 0, 8));
        s.is("NOTHING is there", 40, x.look(1, 1, 0, 0, 0));
        s.is("NOTHING over NOTHING", 1, x.hang(1, 1, 0, 0, 0, 8));
        Hall.unchanged(s, "what hangs there already", h -> h.hang(0, 1, 0, 0, 0, 1));
        Hall.unchanged(s, "NOTHING over NOTHING", h -> h.hang(0, 1, 1, 0, 0, 8));
        s.is("three steps: a place for rows is never that deep", Cause.MISFIT, Hall.build().hang(0, 3, 0, 0, 0, 3));
        s.is("three steps, NOTHING", Cause.MISFIT, Hall.build().hang(0, 3, 0, 0, 0, 8));
        s.of("Promise 10", "BAD.");
        BadNumbers.of(s, "hang");
        s.of("Promise 10", "CAUSES.");
        Hall.refuses(s, "NOTHING", Cause.NOTHING, h -> h.hang(9, 1, 0, 0, 0, 3));
        Hall.refuses(s, "a step at a number", Cause.NO_ROW, h -> h.hang(2, 2, 0, 0, 0, 3));
        Hall.refuses(s, "PLACE", Cause.PLACE, h -> h.hang(1, 1, 3, 0, 0, 3));
        Hall.refuses(s, "MISFIT: numbers", Cause.MISFIT, h -> h.hang(2, 1, 0, 0, 0, 3));
        Hall.refuses(s, "MISFIT: another kind", Cause.MISFIT, h -> h.hang(1, 1, 0, 0, 0, 7));
        Hall.refuses(s, "MISFIT: itself", Cause.MISFIT, h -> h.hang(1, 1, 0, 0, 0, 1));
    }

    private void lift() {
        s.of("Promise 11", "BOX to holds what is THERE (s 1 .. 3): 1 a ROW, 0 NOTHING.");
        DrillCores x = Hall.build();
        s.is("one step", 1, x.lift(0, 1, 2, 99, 99, 9));
        s.is("one step, that row", 1, x.same(9, 1));
        s.is("two steps", 1, x.lift(0, 2, 2, 2, 99, 5));
        s.is("two steps, that row", 1, x.same(5, 3));
        s.is("it hangs there still", 14, x.look(0, 2, 2, 2, 0));
        s.is("NOTHING over a row", 0, x.lift(0, 1, 1, 0, 0, 5));
        s.is("NOTHING is in the box", 40, x.look(5, 0, 0, 0, 0));
        s.is("NOTHING over NOTHING", 0, x.lift(0, 2, 0, 1, 0, 5));
        s.is("over what it came from", 1, x.lift(0, 2, 0, 0, 0, 0));
        s.is("that row", 1, x.same(0, 2));
        s.is("three steps: what is there is a number", Cause.NO_ROW, Hall.build().lift(0, 3, 0, 0, 0, 9));
        s.of("Promise 11", "BAD.");
        BadNumbers.of(s, "lift");
        s.of("Promise 11", "CAUSES of the STEPS; NO ROW: a number.");
        for (int[] p : STEPS) {
            Hall.refuses(s, "lift", p[0], h -> h.lift(p[1], p[2], p[3], p[4], p[5], 7));
        }
        Hall.refuses(s, "a number", Cause.NO_ROW, h -> h.lift(2, 1, 0, 0, 0, 7));
        Hall.refuses(s, "a number", Cause.NO_ROW, h -> h.lift(1, 2, 0, 2, 0, 7));
        Hall.refuses(s, "a number", Cause.NO_ROW, h -> h.lift(0, 3, 0, 0, 0, 7));
        Hall.refuses(s, "a number, into the same box", Cause.NO_ROW, h -> h.lift(2, 1, 0, 0, 0, 2));
    }
}
