/** Promises 1 to 5: a new object, make, take, empty, same. */
final class BoxEdges {
    private final Sentences s;

    BoxEdges(Sentences s) {
        this.s = s;
    }

    void all() {
        newObject();
        make();
        makeIsFull();
        makeHasSize();
        take();
        empty();
        same();
    }

    private void newObject() {
        s.of("Promise 1", "All BOXES hold NOTHING.");
        DrillCores x = new DrillCores();
        for (int box = 0; box <= 9; box++) {
            s.is("look at box " + box, 40, x.look(box, 0, 0, 0, 0));
            s.is("a step from box " + box, Cause.NOTHING, x.look(box, 1, 0, 0, 0));
            s.is("empty box " + box, 0, x.empty(box));
            s.is("same as box 0", 1, x.same(box, 0));
        }
        s.is("boxes in use", 0, x.about(6));
        DrillCores used = Hall.build();
        s.is("another object is new, too", 40, new DrillCores().look(0, 0, 0, 0, 0));
        s.is("and leaves this one alone", 34, used.look(0, 0, 0, 0, 0));
    }

    private void make() {
        s.of("Promise 2", "A BOX holds a new ROW: how many were made ahead of it.");
        DrillCores x = new DrillCores();
        s.is("the first one", 0, x.make(3, 1, 2, 4));
        s.is("the second one", 1, x.make(4, 1, 2, 4));
        s.is("alike, not the same", 0, x.same(3, 4));
        x.take(5, 3);
        s.is("in a box that has one", 2, x.make(3, 6, 1, 2));
        s.is("it holds the new one", 16, x.look(3, 0, 0, 0, 0));
        s.is("the old one is where else it was", 21, x.look(5, 0, 0, 0, 0));
        x.empty(3);
        s.is("an emptied one counts", 3, x.make(3, 6, 1, 2));
        x.take(6, 3);
        s.is("a taken one does not", 4, x.make(3, 6, 1, 2));
        x.make(3, 6, 1, 9);
        x.make(3, 6, 1, -1);
        x.make(3, 8, 1, 1);
        s.is("a refused one does not", 5, x.make(3, 6, 1, 2));
        s.of("Promise 2", "BAD;");
        BadNumbers.of(s, "make");
        for (int n : new int[] {-1, 8, 9}) {
            Hall.refuses(s, "BAD box, " + n + " places", -1, h -> h.make(10, 4, 1, n));
            Hall.refuses(s, "BAD kind, " + n + " places", -1, h -> h.make(2, 8, 1, n));
            Hall.refuses(s, "BAD depth, " + n + " places", -1, h -> h.make(2, 4, 0, n));
            s.is("BAD depth behind 120", -1, CauseEdges.full120().make(0, 4, 4, n));
        }
    }

    private void makeIsFull() {
        s.of("Promise 2", "FULL: 120 were made, or n is above 8.");
        DrillCores x = new DrillCores();
        for (int i = 0; i < 119; i++) {
            s.is("row " + i, i, x.make(0, 4, 1, 1));
        }
        s.is("behind 119", 119, x.make(1, 5, 2, 8));
        s.is("behind 119, it is there", 25, x.look(1, 0, 0, 0, 0));
        s.is("behind 120", -2, x.make(1, 4, 1, 1));
        s.is("behind 120, no place", -2, x.make(2, 4, 1, 0));
        x.empty(0);
        x.empty(1);
        s.is("behind 120 of which no box has one", -2, x.make(1, 4, 1, 1));
        s.is("still 120", 120, x.about(0));
        s.is("nothing is in the box", 40, x.look(2, 0, 0, 0, 0));
        for (int n : new int[] {-1, 0, 8, 9}) {
            Hall.alike(s, "behind 120, " + n + " places", h -> makeAll(h) + h.make(2, 4, 1, n), h -> makeAll(h), 0);
        }
        for (int depth = 1; depth <= 3; depth++) {
            int d = depth;
            s.is("n 8", 8, Hall.build().make(2, 4, d, 8));
            Hall.refuses(s, "n 9", -2, h -> h.make(2, 4, d, 9));
            Hall.refuses(s, "n very great", -2, h -> h.make(2, 4, d, Integer.MAX_VALUE));
        }
    }

    /** The hall has 8 ROWS. */
    private static long makeAll(DrillCores x) {
        for (int made = 8; made < 120; made++) {
            x.make(8, 4, 1, 1);
        }
        return x.empty(8);
    }

    private void makeHasSize() {
        s.of("Promise 2", "SIZE: n is below 0.");
        for (int depth = 1; depth <= 3; depth++) {
            int d = depth;
            Hall.refuses(s, "n -1", Cause.SIZE, h -> h.make(2, 4, d, -1));
            Hall.refuses(s, "n very small", Cause.SIZE, h -> h.make(9, 4, d, Integer.MIN_VALUE));
            DrillCores x = Hall.build();
            s.is("n 0", 8, x.make(2, 4, d, 0));
            s.is("n 0, its places", 0, x.length(2, 0, 0, 0, 0));
        }
    }

    private void take() {
        s.of("Promise 3", "A BOX holds what another one (perhaps itself) holds: 1 a ROW, 0 NOTHING.");
        DrillCores x = Hall.build();
        s.is("a row over a row", 1, x.take(2, 0));
        s.is("that one", 1, x.same(2, 0));
        s.is("the other one has it still", 34, x.look(0, 0, 0, 0, 0));
        s.is("a row over NOTHING", 1, x.take(9, 7));
        s.is("that one", 1, x.same(9, 7));
        s.is("NOTHING over a row", 0, x.take(5, 8));
        s.is("NOTHING there", 40, x.look(5, 0, 0, 0, 0));
        s.is("NOTHING over NOTHING", 0, x.take(5, 8));
        Hall.unchanged(s, "itself, a row", h -> h.take(0, 0));
        Hall.unchanged(s, "itself, NOTHING", h -> h.take(9, 9));
        s.is("itself, a row", 1, Hall.build().take(0, 0));
        s.is("itself, NOTHING", 0, Hall.build().take(9, 9));
        s.of("Promise 3", "BAD.");
        BadNumbers.of(s, "take");
    }

    private void empty() {
        s.of("Promise 4", "A BOX holds NOTHING: 1 if it held a ROW, else 0.");
        DrillCores x = Hall.build();
        s.is("a row", 1, x.empty(2));
        s.is("NOTHING there", 40, x.look(2, 0, 0, 0, 0));
        s.is("it still hangs", 14, x.look(1, 1, 0, 0, 0));
        s.is("again", 0, x.empty(2));
        s.is("a row without places", 1, x.empty(6));
        s.is("NOTHING", 0, x.empty(9));
        Hall.unchanged(s, "NOTHING", h -> h.empty(9));
        s.of("Promise 4", "BAD.");
        BadNumbers.of(s, "empty");
    }

    private void same() {
        s.of("Promise 5", "Whether two BOXES hold one and the same ROW, or NOTHING both: 1, 0.");
        DrillCores x = Hall.build();
        s.is("two rows", 0, x.same(2, 3));
        s.is("NOTHING both", 1, x.same(8, 9));
        s.is("a row and NOTHING", 0, x.same(0, 9));
        s.is("NOTHING and a row", 0, x.same(9, 0));
        s.is("itself", 1, x.same(0, 0));
        s.is("itself, NOTHING", 1, x.same(9, 9));
        x.make(2, 4, 1, 2);
        x.make(3, 4, 1, 2);
        s.is("two that are alike", 0, x.same(2, 3));
        x.make(2, 4, 1, 0);
        x.make(3, 4, 1, 0);
        s.is("two without places", 0, x.same(2, 3));
        x.lift(0, 1, 2, 0, 0, 9);
        s.is("lifted", 1, x.same(9, 1));
        Hall.unchanged(s, "same", h -> h.same(2, 3));
        s.of("Promise 5", "BAD.");
        BadNumbers.of(s, "same");
        for (int bad : new int[] {-1, 10}) {
            Hall.refuses(s, "both " + bad, -1, h -> h.same(bad, bad));
        }
    }
}
