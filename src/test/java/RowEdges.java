/** Terms: ROWS, their PLACES, BOXES and PATHS; and how long an object is used. */
final class RowEdges {
    private final Sentences s;

    RowEdges(Sentences s) {
        this.s = s;
    }

    void all() {
        calls();
        depthsAndPlaces();
        numbersAtFirst();
        rowsAtFirst();
        boxes();
        oneRowInMany();
        steps();
        there();
        holder();
    }

    private void calls() {
        s.of("What it is", "An object is used for at most 512 calls after it has been made; what later calls answer is free.");
        DrillCores x = new DrillCores();
        for (int call = 1; call <= 510; call++) {
            s.is("call " + call, Cause.NOTHING, x.length(0, 0, 0, 0, 0));
        }
        s.is("call 511", 510, x.about(1));
        s.is("call 512", 0, x.make(9, 7, 3, 8));
    }

    private void depthsAndPlaces() {
        s.of("Terms", "ROWS have a KIND, a DEPTH 1 .. 3, and 0 .. 8 PLACES from 0 on.");
        BadNumbers.named(s, "depth");
        for (int depth = 1; depth <= 3; depth++) {
            for (int n = 0; n <= 8; n++) {
                DrillCores x = new DrillCores();
                s.is("make of " + n + " places", 0, x.make(0, 5, depth, n));
                s.is("its kind and depth", 5 + 10 * depth, x.look(0, 0, 0, 0, 0));
                s.is("its places", n, x.length(0, 0, 0, 0, 0));
                for (int place = 0; place < n; place++) {
                    s.is("place " + place + " of " + n, depth == 1 ? 5 : 40, x.look(0, 1, place, 0, 0));
                }
                s.is("place -1 of " + n, Cause.PLACE, x.look(0, 1, -1, 0, 0));
                s.is("place " + n + " of " + n, Cause.PLACE, x.look(0, 1, n, 0, 0));
            }
            Hall.refuses(s, "make of 9 places", DrillCores.FULL, fits(depth, 9));
            Hall.refuses(s, "make of -1 places", Cause.SIZE, fits(depth, -1));
        }
    }

    private static Hall.Call fits(int depth, int n) {
        return x -> x.make(2, 5, depth, n);
    }

    private void numbersAtFirst() {
        s.of("Terms", "At DEPTH 1 each PLACE has a number of the KIND (0 at first);");
        for (int kind = 0; kind <= 7; kind++) {
            for (int place = 0; place < 8; place++) {
                DrillCores x = new DrillCores();
                x.make(9, 4, 1, 8);
                x.fill(9, 0, 0, 0, 4, -1);
                x.look(9, 1, 0, 0, 0);
                x.make(9, kind, 1, 8);
                s.is("look", kind, x.look(9, 1, place, 0, 0));
                s.is("seen", 0, x.seen());
            }
        }
    }

    private void rowsAtFirst() {
        s.of("Terms", "at DEPTH 2, 3 a ROW of the same KIND and one DEPTH less, or NOTHING (at first).");
        for (int depth = 2; depth <= 3; depth++) {
            DrillCores x = new DrillCores();
            x.make(0, 6, depth, 8);
            x.make(1, 6, depth - 1, 1);
            for (int place = 0; place < 8; place++) {
                s.is("at first", 40, x.look(0, 1, place, 0, 0));
                s.is("a row", 1, x.hang(0, 1, place, 0, 0, 1));
                s.is("it is there", 6 + 10 * (depth - 1), x.look(0, 1, place, 0, 0));
                s.is("NOTHING again", 1, x.hang(0, 1, place, 0, 0, 9));
                s.is("it is there", 40, x.look(0, 1, place, 0, 0));
            }
            for (int other = 1; other <= 3; other++) {
                x.make(2, 6, other, 1);
                s.is("depth " + other, other == depth - 1 ? 1 : Cause.MISFIT, x.hang(0, 1, 7, 0, 0, 2));
            }
            for (int kind = 0; kind <= 7; kind++) {
                x.make(2, kind, depth - 1, 1);
                s.is("kind " + kind, kind == 6 ? 1 : Cause.MISFIT, x.hang(0, 1, 7, 0, 0, 2));
            }
        }
    }

    private void boxes() {
        s.of("Terms", "BOXES 0 .. 9 hold a ROW or NOTHING (at first).");
        for (String name : new String[] {"box", "from", "other", "to"}) {
            BadNumbers.named(s, name);
        }
        DrillCores x = new DrillCores();
        for (int box = 0; box <= 9; box++) {
            s.is("box " + box + " at first", 40, x.look(box, 0, 0, 0, 0));
            s.is("a row in box " + box, box, x.make(box, box % 8, 1, 1));
        }
        for (int box = 0; box <= 9; box++) {
            s.is("box " + box + " has its own row", 10 + box % 8, x.look(box, 0, 0, 0, 0));
            s.is("NOTHING in box " + box, 1, x.empty(box));
            s.is("box " + box, 40, x.look(box, 0, 0, 0, 0));
        }
    }

    /** The ints of boxes 2 and 5 hang in all places of what box 1 holds, which hangs twice in what box 0 holds. */
    private static DrillCores oneRow() {
        DrillCores x = new DrillCores();
        x.make(0, 4, 3, 2);
        x.make(1, 4, 2, 2);
        x.make(2, 4, 1, 2);
        for (int place = 0; place < 2; place++) {
            x.hang(0, 1, place, 0, 0, 1);
            x.hang(1, 1, place, 0, 0, 2);
        }
        x.take(5, 2);
        return x;
    }

    private void numbersEverywhere(DrillCores x, String done, long first, long second) {
        int[][] ways = {{2, 0, 0, 0}, {5, 0, 0, 0}, {1, 1, 0, 0}, {1, 1, 1, 0}, {0, 2, 0, 0}, {0, 2, 0, 1}, {0, 2, 1, 0},
            {0, 2, 1, 1}};
        for (int[] w : ways) {
            String way = done + ", by box " + w[0] + " and " + w[1] + " steps";
            long[] want = {first, second};
            for (int place = 0; place < 2; place++) {
                int a = w[1] > 0 ? w[2] : place;
                int b = w[1] > 1 ? w[3] : place;
                s.is(way, 4, x.look(w[0], w[1] + 1, a, b, place));
                s.is(way, want[place], x.seen());
            }
        }
    }

    private void oneRowInMany() {
        s.of("Terms", "One ROW may hang in many PLACES and BOXES: what is done to it is done in all of them.");
        DrillCores x = oneRow();
        x.write(0, 3, 1, 0, 1, 4, 6);
        numbersEverywhere(x, "write", 0, 6);
        x.turn(1, 1, 1, 0, 0, 1);
        numbersEverywhere(x, "turn", 6, 0);
        x.fill(5, 0, 0, 0, 4, -2);
        numbersEverywhere(x, "fill", -2, -2);
        x.make(7, 1, 1, 1);
        x.write(7, 1, 0, 0, 0, 1, 9);
        x.pour(7, 2);
        numbersEverywhere(x, "pour", 9, -2);
        x.empty(2);
        staysWhereItHangs(x);
        x = oneRow();
        x.hang(0, 2, 0, 1, 0, 9);
        s.is("hang in place 0, seen in place 1", 40, x.look(0, 2, 1, 1, 0));
        s.is("hang in place 0, seen in the box", 40, x.look(1, 1, 1, 0, 0));
        s.is("hang: the other place has it still", 14, x.look(0, 2, 1, 0, 0));
    }

    /** A ROW stays where it hangs when a BOX no longer holds it. */
    private void staysWhereItHangs(DrillCores x) {
        s.is("the emptied box", 40, x.look(2, 0, 0, 0, 0));
        s.is("the other box", 14, x.look(5, 0, 0, 0, 0));
        s.is("a place", 4, x.look(0, 3, 1, 1, 0));
        s.is("its number", 9, x.seen());
    }

    private void steps() {
        s.of("Terms", "A PATH s, a, b, c, from a BOX: s STEPS (0 .. 3), to PLACE a of the ROW it holds,"
                + " then to PLACE b of the ROW that is there, then to PLACE c likewise.");
        BadNumbers.named(s, "s");
        DrillCores x = Hall.build();
        s.is("to place a", 24, x.look(0, 1, 0, 9, 9));
        s.is("to place a", 40, x.look(0, 1, 1, 9, 9));
        s.is("then to place b", 40, x.look(0, 2, 0, 1, 9));
        s.is("then to place b", 14, x.look(0, 2, 0, 2, 9));
        long[][] numbers = {{0, 7}, {1, -8}, {2, 9}};
        for (long[] n : numbers) {
            s.is("then to place c", 4, x.look(0, 3, 2, 0, (int) n[0]));
            s.is("its number", n[1], x.seen());
        }
        x.look(0, 3, 0, 2, 1);
        s.is("by place 2 of the second row", 22, x.seen());
    }

    private void there() {
        s.of("Terms", "THERE is what it comes to (of no STEPS: what the BOX holds).");
        DrillCores x = Hall.build();
        int[] inBoxes = {34, 24, 14, 14, 16, 10, 24, 11, 40, 40};
        for (int box = 0; box <= 9; box++) {
            s.is("look, no steps, box " + box, inBoxes[box], x.look(box, 0, -1, -1, -1));
        }
        s.is("length, no steps", 3, x.length(0, 0, -1, -1, -1));
        s.is("count, no steps", 10, x.count(0, 0, -1, -1));
        s.is("total, no steps", 1, x.total(2, 0, -1, -1));
        s.is("total, no steps, seen", 8, x.seen());
        s.is("fill, no steps", 4, x.fill(7, 0, -1, -1, 1, 3));
        s.is("turn, no steps", 1, x.turn(0, 0, -1, -1, 0, 1));
        s.is("turn, no steps, look", 40, x.look(0, 1, 0, 0, 0));
    }

    private void holder() {
        s.of("Terms", "The HOLDER is what it comes to by all STEPS but the last one,"
                + " and the PLACE of that one is THE PLACE.");
        int[][] paths = {{2, 1, 2, 0, 1}, {1, 2, 0, 2, 1}, {0, 3, 2, 0, 2}};
        for (int[] p : paths) {
            DrillCores x = Hall.build();
            s.is("read, " + p[1] + " steps", 1, x.read(p[0], p[1], p[2], p[3], p[4], 5));
            s.is("read, " + p[1] + " steps, seen", 9, x.seen());
            s.is("write, " + p[1] + " steps", 1, x.write(p[0], p[1], p[2], p[3], p[4], 4, 50));
            for (int place = 0; place < 3; place++) {
                x.look(2, 1, place, 0, 0);
                s.is("write, then place " + place, new long[] {7, -8, 50}[place], x.seen());
            }
        }
        DrillCores x = Hall.build();
        s.is("hang, one step", 1, x.hang(0, 1, 1, 0, 0, 1));
        s.is("hang, one step, look", 24, x.look(0, 1, 1, 0, 0));
        s.is("hang, two steps", 1, x.hang(0, 2, 2, 1, 0, 3));
        s.is("hang, two steps, look", 14, x.look(1, 1, 1, 0, 0));
    }
}
