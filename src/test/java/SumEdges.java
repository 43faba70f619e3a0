/** Promises 16 to 19: total, count, seen, about. */
final class SumEdges {
    private final Sentences s;

    SumEdges(Sentences s) {
        this.s = s;
    }

    void all() {
        total();
        wraps();
        totalCauses();
        count();
        seen();
        about();
    }

    private void sums(DrillCores x, String text, long want, int box, int steps, int a, int b) {
        s.is(text, 1, x.total(box, steps, a, b));
        s.is(text + ", seen()", want, x.seen());
    }

    private void total() {
        s.of("Promise 16", "All numbers in the ROW THERE (s 0 .. 2), and in all ROWS in it"
                + " (one that hangs in several PLACES each time; NOTHING has none), in order, READ as longs,");
        DrillCores x = Hall.build();
        sums(x, "no steps, each time that it hangs there", 2 * (8 + 43), 0, 0, 99, 99);
        sums(x, "one step", 8 + 43, 0, 1, 2, 99);
        sums(x, "two steps", 43, 0, 2, 0, 2);
        sums(x, "numbers", 8, 2, 0, 99, 99);
        sums(x, "bytes", 2, 7, 0, 99, 99);
        x.hang(1, 1, 1, 0, 0, 2);
        sums(x, "in two places of one row", 8 + 8 + 43, 1, 0, 0, 0);
        x.hang(0, 1, 0, 0, 0, 9);
        sums(x, "NOTHING has none", 8 + 8 + 43, 0, 0, 0, 0);
        x.hang(0, 1, 2, 0, 0, 9);
        sums(x, "NOTHING in all places", 0, 0, 0, 0, 0);
        x.look(2, 1, 0, 0, 0);
        sums(x, "no places", 0, 6, 0, 0, 0);
        for (int kind = 1; kind <= 5; kind++) {
            x = new DrillCores();
            x.make(0, kind, 1, 8);
            x.fill(0, 0, 0, 0, kind, -1);
            sums(x, "eight of kind " + kind, kind == 3 ? 8 * 65535 : -8, 0, 0, 0, 0);
            x.write(0, 1, 7, 0, 0, kind, 1);
            sums(x, "the last one too", kind == 3 ? 7 * 65535 + 1 : -6, 0, 0, 0, 0);
        }
    }

    private void wraps() {
        s.of("Promise 16", "together (wrapping), are SEEN: 1.");
        long[][] sums = {{Long.MAX_VALUE, 0, Long.MAX_VALUE}, {Long.MAX_VALUE, 1, Long.MIN_VALUE},
            {Long.MIN_VALUE, 0, Long.MIN_VALUE}, {Long.MIN_VALUE, -1, Long.MAX_VALUE}, {Long.MIN_VALUE, Long.MIN_VALUE, 0},
            {Long.MAX_VALUE, Long.MAX_VALUE, -2}, {Long.MAX_VALUE, Long.MIN_VALUE, -1}, {1L << 62, 1L << 62, Long.MIN_VALUE}};
        for (long[] sum : sums) {
            DrillCores x = new DrillCores();
            x.make(0, 5, 1, 2);
            Hall.put(x, 0, 5, sum[0], sum[1]);
            sums(x, "in one row", sum[2], 0, 0, 0, 0);
            x.make(1, 5, 2, 2);
            x.make(2, 5, 1, 1);
            x.make(3, 5, 1, 1);
            Hall.put(x, 2, 5, sum[0]);
            Hall.put(x, 3, 5, sum[1]);
            x.hang(1, 1, 0, 0, 0, 2);
            x.hang(1, 1, 1, 0, 0, 3);
            sums(x, "in two rows", sum[2], 1, 0, 0, 0);
        }
        long[][] noWrap = {{1, 127, 254}, {1, -128, -256}, {2, 32767, 65534}, {2, -32768, -65536}, {3, 65535, 131070},
            {4, Integer.MAX_VALUE, 4294967294L}, {4, Integer.MIN_VALUE, -4294967296L}};
        for (long[] n : noWrap) {
            DrillCores x = new DrillCores();
            x.make(0, (int) n[0], 1, 2);
            x.fill(0, 0, 0, 0, (int) n[0], n[1]);
            sums(x, "two of kind " + n[0], n[2], 0, 0, 0, 0);
        }
    }

    private void totalCauses() {
        s.of("Promise 16", "BAD.");
        BadNumbers.of(s, "total");
        s.of("Promise 16", "CAUSES of the STEPS; NOTHING; NO ROW;");
        for (int[] p : PathEdges.STEPS) {
            if (p[2] <= 2) {
                Hall.refuses(s, "total", p[0], x -> x.total(p[1], p[2], p[3], p[4]));
            }
        }
        Hall.refuses(s, "NOTHING in a box", Cause.NOTHING, x -> x.total(9, 0, 0, 0));
        Hall.refuses(s, "NOTHING in a place", Cause.NOTHING, x -> x.total(0, 1, 1, 0));
        Hall.refuses(s, "NOTHING deeper", Cause.NOTHING, x -> x.total(0, 2, 0, 1));
        Hall.refuses(s, "a number", Cause.NO_ROW, x -> x.total(2, 1, 0, 0));
        Hall.refuses(s, "a truth", Cause.NO_ROW, x -> x.total(5, 1, 0, 0));
        Hall.refuses(s, "a number deeper", Cause.NO_ROW, x -> x.total(1, 2, 0, 0));
        s.of("Promise 16", "MISFIT: with the first one.");
        Hall.refuses(s, "floats", Cause.MISFIT, x -> x.total(4, 0, 0, 0));
        Hall.refuses(s, "truths", Cause.MISFIT, x -> x.total(5, 0, 0, 0));
        for (int kind = 0; kind <= 7; kind++) {
            misfitWithTheFirst(kind, kind >= 1 && kind <= 5);
        }
    }

    private void misfitWithTheFirst(int kind, boolean goes) {
        DrillCores x = new DrillCores();
        x.make(0, kind, 3, 2);
        x.make(1, kind, 2, 2);
        x.make(2, kind, 1, 0);
        String text = "kind " + kind + ", ";
        makeSeen(x, 77);
        sums(x, text + "NOTHING alone", 0, 0, 0, 0, 0);
        x.hang(0, 1, 1, 0, 0, 1);
        x.hang(1, 1, 0, 0, 0, 2);
        makeSeen(x, 77);
        sums(x, text + "no number in it", 0, 0, 0, 0, 0);
        makeSeen(x, 77);
        sums(x, text + "no places", 0, 2, 0, 0, 0);
        for (int n : new int[] {1, 8}) {
            x.make(3, kind, 1, n);
            x.hang(1, 1, 1, 0, 0, 3);
            makeSeen(x, 77);
            int met = x.about(4);
            int want = goes ? 1 : Cause.MISFIT;
            s.is(text + n + " in rows of rows", want, x.total(0, 0, 0, 0));
            s.is(text + n + " in rows", want, x.total(1, 0, 0, 0));
            s.is(text + n + " in a row", want, x.total(0, 2, 1, 1));
            s.is(text + n + ", seen()", goes ? 0 : 77, x.seen());
            s.is(text + n + ", met once each", goes ? met : met + 3, x.about(4));
        }
    }

    private static void makeSeen(DrillCores x, long number) {
        x.make(9, 5, 1, 1);
        x.write(9, 1, 0, 0, 0, 5, number);
        x.look(9, 1, 0, 0, 0);
    }

    private void count() {
        s.of("Promise 17", "How many numbers total() would go over.");
        DrillCores x = Hall.build();
        int[][] counts = {{10, 0, 0, 99, 99}, {5, 0, 1, 2, 99}, {2, 0, 2, 0, 2}, {3, 2, 0, 99, 99}, {0, 6, 0, 99, 99},
            {2, 4, 0, 0, 0}, {2, 5, 0, 0, 0}, {4, 7, 0, 0, 0}};
        for (int[] c : counts) {
            s.is("of " + c[0], c[0], x.count(c[1], c[2], c[3], c[4]));
            Hall.unchanged(s, "of " + c[0], h -> h.count(c[1], c[2], c[3], c[4]));
        }
        for (int kind = 0; kind <= 7; kind++) {
            for (int n = 0; n <= 8; n++) {
                x = new DrillCores();
                x.make(0, kind, 3, 8);
                x.make(1, kind, 2, 8);
                x.make(2, kind, 1, n);
                s.is("NOTHING has none", 0, x.count(0, 0, 0, 0));
                for (int place = 0; place < 8; place++) {
                    x.hang(0, 1, place, 0, 0, 1);
                    x.hang(1, 1, place, 0, 0, 2);
                }
                s.is("64 times " + n, 64 * n, x.count(0, 0, 0, 0));
                s.is("8 times " + n, 8 * n, x.count(0, 1, 7, 0));
                s.is("once " + n, n, x.count(0, 2, 7, 7));
            }
        }
        s.of("Promise 17", "BAD.");
        BadNumbers.of(s, "count");
        s.of("Promise 17", "CAUSES of the STEPS; NOTHING; NO ROW.");
        for (int[] p : PathEdges.STEPS) {
            if (p[2] <= 2) {
                Hall.refuses(s, "count", p[0], h -> h.count(p[1], p[2], p[3], p[4]));
            }
        }
        Hall.refuses(s, "NOTHING in a box", Cause.NOTHING, h -> h.count(9, 0, 0, 0));
        Hall.refuses(s, "NOTHING in a place", Cause.NOTHING, h -> h.count(0, 1, 1, 0));
        Hall.refuses(s, "NOTHING deeper", Cause.NOTHING, h -> h.count(0, 2, 0, 1));
        Hall.refuses(s, "a number", Cause.NO_ROW, h -> h.count(2, 1, 0, 0));
        Hall.refuses(s, "a number deeper", Cause.NO_ROW, h -> h.count(1, 2, 0, 0));
    }

    private void seen() {
        s.of("Promise 18", "BITS of the latest number that was SEEN, as its KIND (read(): as that KIND).");
        DrillCores x = Hall.build();
        s.is("asked", -8, x.seen());
        s.is("asked again", -8, x.seen());
        x.read(7, 1, 0, 0, 0, 6);
        s.is("read as a float", (int) 0xbf800000L, x.seen());
        x.look(7, 1, 0, 0, 0);
        s.is("looked at", -1, x.seen());
        x.read(7, 1, 1, 0, 0, 7);
        s.is("read as a double", 0x4000000000000000L, x.seen());
        x.total(7, 0, 0, 0);
        s.is("a sum, as a long", 2, x.seen());
        x.look(4, 1, 1, 0, 0);
        s.is("a float, looked at", -2147483648L, x.seen());
        x.read(4, 1, 1, 0, 0, 7);
        s.is("a float, read as a double", Long.MIN_VALUE, x.seen());
        Hall.unchanged(s, "seen", h -> h.seen());
        int[] kinds = {2, 4};
        for (int kind : kinds) {
            Hall.Call[] unseen = {h -> h.write(2, 1, 0, 0, 0, kind, 5), h -> h.fill(2, 0, 0, 0, kind, 5), h -> h.pour(7, 2),
                h -> h.turn(2, 0, 0, 0, 0, 1), h -> h.hang(1, 1, 1, 0, 0, 2), h -> h.lift(1, 1, 0, 0, 0, 9),
                h -> h.count(0, 0, 0, 0), h -> h.length(2, 0, 0, 0, 0), h -> h.make(2, kind, 1, 1), h -> h.take(2, 3),
                h -> h.empty(2), h -> h.same(2, 3), h -> h.look(2, 0, 0, 0, 0), h -> h.about(0), h -> h.moved()};
            for (int i = 0; i < unseen.length; i++) {
                DrillCores y = Hall.build();
                unseen[i].on(y);
                s.is("behind call " + i + ", that sees none", -8, y.seen());
            }
        }
        s.of("Promise 18", "0 ahead of one.");
        x = new DrillCores();
        s.is("a new object", 0, x.seen());
        x.make(0, 4, 1, 1);
        x.write(0, 1, 0, 0, 0, 4, 5);
        x.look(0, 0, 0, 0, 0);
        x.read(0, 1, 1, 0, 0, 4);
        x.look(0, 4, 0, 0, 0);
        s.is("behind calls that see none", 0, x.seen());
        x.look(0, 1, 0, 0, 0);
        s.is("behind one that sees", 5, x.seen());
    }

    private void about() {
        s.of("Promise 19", "How often a CAUSE (1 .. 5) was met;");
        for (int cause = 0; cause <= 5; cause++) {
            s.is("met " + cause + " times", cause == 0 ? 8 : cause, Hall.build().about(cause));
        }
        DrillCores x = new DrillCores();
        for (int what = 1; what <= 5; what++) {
            s.is("of a new object", 0, x.about(what));
        }
        for (int time = 1; time <= 100; time++) {
            x.make(0, 4, 1, -1);
            x.length(0, 0, 0, 0, 0);
            x.look(10, 0, 0, 0, 0);
        }
        s.is("a hundred times SIZE", 100, x.about(5));
        s.is("a hundred times NOTHING", 100, x.about(1));
        Hall.unchanged(s, "about", h -> h.about(3));
        aboutRows();
        aboutBoxes();
        s.of("Promise 19", "BAD.");
        BadNumbers.of(s, "about");
    }

    private void aboutRows() {
        s.of("Promise 19", "0: how many ROWS were made;");
        DrillCores x = new DrillCores();
        s.is("at first", 0, x.about(0));
        for (int made = 1; made <= 120; made++) {
            x.make(made % 10, 4, 1, 1);
            s.is("made", made, x.about(0));
        }
        x.make(0, 4, 1, 1);
        s.is("behind 120", 120, x.about(0));
        x.empty(0);
        s.is("behind an empty()", 120, x.about(0));
        x = Hall.build();
        x.make(0, 4, 1, 9);
        x.make(0, 4, 1, -1);
        x.make(0, 4, 0, 1);
        s.is("refused ones are none", 8, x.about(0));
    }

    private void aboutBoxes() {
        s.of("Promise 19", "6: how many BOXES hold a ROW.");
        DrillCores x = new DrillCores();
        s.is("at first", 0, x.about(6));
        x.make(0, 4, 2, 0);
        for (int box = 1; box <= 9; box++) {
            s.is("so far", box, x.about(6));
            x.take(box, 0);
        }
        s.is("all", 10, x.about(6));
        x.make(3, 4, 1, 1);
        s.is("a new one for an old one", 10, x.about(6));
        for (int box = 0; box <= 9; box++) {
            x.empty(box);
            s.is("left", 9 - box, x.about(6));
        }
        x = Hall.build();
        s.is("what hangs in places does not count", 8, x.about(6));
        x.lift(0, 1, 0, 0, 0, 9);
        s.is("lifted", 9, x.about(6));
        x.lift(0, 1, 1, 0, 0, 9);
        s.is("NOTHING lifted", 8, x.about(6));
    }
}
