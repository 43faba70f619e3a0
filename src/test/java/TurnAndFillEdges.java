/** Promises 12 and 13: turn, fill. */
final class TurnAndFillEdges {
    private final Sentences s;

    TurnAndFillEdges(Sentences s) {
        this.s = s;
    }

    void all() {
        turn();
        turnCauses();
        fill();
        fillCauses();
    }

    private void turn() {
        s.of("Promise 12", "In the ROW THERE (s 0 .. 2) PLACES i and j change what they have: 1.");
        int[][] ways = {{2, 0, 99, 99}, {1, 1, 0, 99}, {0, 2, 2, 0}};
        for (int[] w : ways) {
            String text = w[1] + " steps";
            s.is(text, 1, Hall.build().turn(w[0], w[1], w[2], w[3], 0, 2));
            Hall.alike(s, text, x -> x.turn(w[0], w[1], w[2], w[3], 0, 2), x -> put(x, 9, -8, 7), 0);
            Hall.alike(s, text, x -> x.turn(w[0], w[1], w[2], w[3], 2, 0), x -> put(x, 9, -8, 7), 0);
            Hall.alike(s, text, x -> x.turn(w[0], w[1], w[2], w[3], 1, 2), x -> put(x, 7, 9, -8), 0);
            for (int place = 0; place < 3; place++) {
                int p = place;
                s.is(text + ", one place", 1, Hall.build().turn(w[0], w[1], w[2], w[3], p, p));
                Hall.unchanged(s, text + ", one place", x -> x.turn(w[0], w[1], w[2], w[3], p, p));
            }
        }
        turnRows();
    }

    private static long put(DrillCores x, long... bits) {
        Hall.put(x, 2, 4, bits);
        return 1;
    }

    private void turnRows() {
        s.is("rows", 1, Hall.build().turn(1, 0, 0, 0, 0, 2));
        Hall.alike(s, "rows", x -> x.turn(0, 1, 2, 99, 0, 2), x -> hung(x, 3, 9, 2), 0);
        Hall.alike(s, "a row and NOTHING", x -> x.turn(1, 0, 99, 99, 0, 1), x -> hung(x, 9, 2, 3), 0);
        Hall.alike(s, "NOTHING and a row", x -> x.turn(1, 0, 99, 99, 1, 2), x -> hung(x, 2, 3, 9), 0);
        Hall.unchanged(s, "one row in both", x -> x.turn(0, 0, 99, 99, 0, 2));
        Hall.unchanged(s, "NOTHING, one place", x -> x.turn(0, 0, 99, 99, 1, 1));
    }

    private static long hung(DrillCores x, int... boxes) {
        for (int place = 0; place < boxes.length; place++) {
            x.hang(1, 1, place, 0, 0, boxes[place]);
        }
        return 1;
    }

    private void turnCauses() {
        s.of("Promise 12", "BAD.");
        BadNumbers.of(s, "turn");
        s.of("Promise 12", "CAUSES of the STEPS; NOTHING; NO ROW; PLACE.");
        for (int[] p : PathEdges.STEPS) {
            if (p[2] <= 2) {
                Hall.refuses(s, "turn", p[0], x -> x.turn(p[1], p[2], p[3], p[4], 0, 1));
                Hall.refuses(s, "turn, no such places", p[0], x -> x.turn(p[1], p[2], p[3], p[4], -1, 99));
            }
        }
        for (int i : new int[] {0, 99}) {
            Hall.refuses(s, "NOTHING in a box", Cause.NOTHING, x -> x.turn(9, 0, 0, 0, i, 0));
            Hall.refuses(s, "NOTHING in a place", Cause.NOTHING, x -> x.turn(0, 1, 1, 0, i, 0));
            Hall.refuses(s, "NOTHING deeper", Cause.NOTHING, x -> x.turn(0, 2, 0, 1, i, 0));
            Hall.refuses(s, "a number", Cause.NO_ROW, x -> x.turn(2, 1, 0, 0, i, 0));
            Hall.refuses(s, "a number deeper", Cause.NO_ROW, x -> x.turn(1, 2, 0, 0, i, 0));
        }
        for (int none : new int[] {-1, 3, Integer.MIN_VALUE, Integer.MAX_VALUE}) {
            for (int place : new int[] {0, 2, none}) {
                for (int box : new int[] {0, 1, 2}) {
                    Hall.refuses(s, "i " + none, Cause.PLACE, x -> x.turn(box, 0, 0, 0, none, place));
                    Hall.refuses(s, "j " + none, Cause.PLACE, x -> x.turn(box, 0, 0, 0, place, none));
                }
            }
        }
        Hall.refuses(s, "both, each on its side", Cause.PLACE, x -> x.turn(2, 0, 0, 0, -1, 3));
        Hall.refuses(s, "no places at all", Cause.PLACE, x -> x.turn(6, 0, 0, 0, 0, 0));
    }

    private void fill() {
        s.of("Promise 13", "Each PLACE of the ROW THERE (s 0 .. 2) in turn is WRITTEN to,"
                + " a number of a KIND with these BITS: how many are.");
        int[][] ways = {{2, 0, 99, 99}, {1, 1, 0, 99}, {0, 2, 2, 0}};
        for (int[] w : ways) {
            s.is(w[1] + " steps", 3, Hall.build().fill(w[0], w[1], w[2], w[3], 2, 0x1fffe));
            Hall.alike(s, w[1] + " steps", x -> x.fill(w[0], w[1], w[2], w[3], 2, 0x1fffe), x -> put(x, -2, -2, -2), 0);
        }
        for (int n = 0; n <= 8; n++) {
            DrillCores x = new DrillCores();
            x.make(0, 5, 1, n);
            s.is("of " + n, n, x.fill(0, 0, 0, 0, 5, 3));
            x.total(0, 0, 0, 0);
            s.is("of " + n + ", all of them", 3L * n, x.seen());
        }
    }

    private void fillCauses() {
        s.of("Promise 13", "BAD.");
        BadNumbers.of(s, "fill");
        s.of("Promise 13", "CAUSES of the STEPS; NOTHING;");
        for (int[] p : PathEdges.STEPS) {
            if (p[2] <= 2) {
                Hall.refuses(s, "fill", p[0], x -> x.fill(p[1], p[2], p[3], p[4], 4, 50));
                Hall.refuses(s, "fill, no kind that fits", p[0], x -> x.fill(p[1], p[2], p[3], p[4], 0, 50));
            }
        }
        for (int kind : new int[] {4, 0}) {
            Hall.refuses(s, "NOTHING in a box", Cause.NOTHING, x -> x.fill(9, 0, 0, 0, kind, 50));
            Hall.refuses(s, "NOTHING in a place", Cause.NOTHING, x -> x.fill(0, 1, 1, 0, kind, 50));
            Hall.refuses(s, "NOTHING deeper", Cause.NOTHING, x -> x.fill(0, 2, 0, 1, kind, 50));
        }
        s.of("Promise 13", "NO ROW: a number, or with the first PLACE of a ROW that has ROWS;");
        for (int kind : new int[] {4, 0}) {
            Hall.refuses(s, "a number", Cause.NO_ROW, x -> x.fill(2, 1, 0, 0, kind, 50));
            Hall.refuses(s, "a number deeper", Cause.NO_ROW, x -> x.fill(1, 2, 0, 0, kind, 50));
            Hall.refuses(s, "rows", Cause.NO_ROW, x -> x.fill(0, 0, 0, 0, kind, 50));
            Hall.refuses(s, "rows deeper", Cause.NO_ROW, x -> x.fill(0, 1, 0, 0, kind, 50));
            s.is("rows that have no first place", 0, Hall.build().fill(6, 0, 0, 0, kind, 50));
            Hall.unchanged(s, "rows that have no first place", x -> x.fill(6, 0, 0, 0, kind, 50));
        }
        s.of("Promise 13", "MISFIT: with the first PLACE.");
        for (int kind : new int[] {0, 5, 6, 7}) {
            Hall.refuses(s, "kind " + kind, Cause.MISFIT, x -> x.fill(2, 0, 0, 0, kind, 50));
            Hall.refuses(s, "kind " + kind, Cause.MISFIT, x -> x.fill(0, 2, 0, 2, kind, 50));
            DrillCores x = new DrillCores();
            x.make(0, 4, 1, 0);
            s.is("no first place, kind " + kind, 0, x.fill(0, 0, 0, 0, kind, 50));
            s.is("no first place, no cause", 0, x.about(4));
            x.make(0, 4, 1, 1);
            s.is("one place, kind " + kind, Cause.MISFIT, x.fill(0, 0, 0, 0, kind, 50));
            s.is("one place, one cause", 1, x.about(4));
            x.make(0, 4, 1, 8);
            s.is("eight places, kind " + kind, Cause.MISFIT, x.fill(0, 0, 0, 0, kind, 50));
            s.is("eight places, one cause more", 2, x.about(4));
        }
    }
}
