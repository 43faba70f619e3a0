/** Promises 1 to 5: a new object, make, take, empty, same. */
public final class BoxesTest {
    private static final Due due = new Due();

    public static void main(String[] args) {
        newObject();
        makes();
        makeRefuses();
        makeIsFull();
        takes();
        empties();
        sames();
        due.end();
    }

    private static void newObject() {
        DrillCores x = new DrillCores();
        for (int box = 0; box < 10; box++) {
            due.is("1: look at box " + box, 40, x.look(box, 0, 0, 0, 0));
        }
        due.is("1: boxes in use", 0, x.about(6));
        due.is("BAD", -1, DrillCores.BAD);
        due.is("FULL", -2, DrillCores.FULL);
    }

    private static void makes() {
        DrillCores x = new DrillCores();
        int made = 0;
        for (int kind = 0; kind < 8; kind++) {
            for (int depth = 1; depth <= 3; depth++) {
                for (int n = 0; n <= 8; n += 4) {
                    int box = made % 10;
                    due.is("2: make", made, x.make(box, kind, depth, n));
                    due.is("2: kind and depth", kind + 10 * depth, x.look(box, 0, 0, 0, 0));
                    due.is("2: places", n, x.length(box, 0, 0, 0, 0));
                    if (n > 0) {
                        due.is("2: first", depth == 1 ? kind : 40, x.look(box, 1, 0, 0, 0));
                        due.is("2: last", depth == 1 ? kind : 40, x.look(box, 1, n - 1, 0, 0));
                        due.is("2: a number is 0 at first", 0, x.seen());
                    }
                    made++;
                }
            }
        }
    }

    private static void makeRefuses() {
        DrillCores x = new DrillCores();
        x.make(0, 4, 1, 2);
        int[][] bad = {{-1, 4, 1, 1}, {10, 4, 1, 1}, {0, -1, 1, 1}, {0, 8, 1, 1}, {0, 4, 0, 1},
            {0, 4, 4, 1}, {Integer.MIN_VALUE, 4, 1, 1}, {0, Integer.MAX_VALUE, 1, 1}};
        for (int[] b : bad) {
            due.is("2: BAD", -1, x.make(b[0], b[1], b[2], b[3]));
            due.is("2: BAD ahead of FULL", -1, x.make(b[0], b[1], b[2], 9));
            due.is("2: BAD ahead of SIZE", -1, x.make(b[0], b[1], b[2], -1));
        }
        due.is("2: n 9", -2, x.make(0, 5, 1, 9));
        due.is("2: n very great", -2, x.make(0, 5, 3, Integer.MAX_VALUE));
        due.is("2: no size met", 0, x.about(5));
        due.is("2: n -1", Cause.SIZE, x.make(0, 5, 1, -1));
        due.is("2: n very small", Cause.SIZE, x.make(0, 5, 2, Integer.MIN_VALUE));
        due.is("2: sizes met", 2, x.about(5));
        due.is("2: the box has what it had", 14, x.look(0, 0, 0, 0, 0));
        due.is("2: none was made", 1, x.about(0));
        due.is("2: the next one", 1, x.make(9, 7, 3, 8));
    }

    private static void makeIsFull() {
        DrillCores x = new DrillCores();
        for (int i = 0; i < 120; i++) {
            due.is("2: make", i, x.make(3, 1, 2, 1));
        }
        due.is("2: 120 were made", -2, x.make(3, 4, 1, 1));
        due.is("2: BAD ahead of 120", -1, x.make(3, 4, 0, 1));
        due.is("2: 120 ahead of SIZE", -2, x.make(3, 4, 1, -1));
        due.is("2: no size met", 0, x.about(5));
        due.is("2: 120 made", 120, x.about(0));
        due.is("2: the box has what it had", 21, x.look(3, 0, 0, 0, 0));
        x.empty(3);
        due.is("2: also when no box has one", -2, x.make(3, 4, 1, 1));
    }

    private static void takes() {
        DrillCores x = new DrillCores();
        due.is("3: NOTHING", 0, x.take(0, 1));
        x.make(1, 4, 1, 2);
        due.is("3: a ROW", 1, x.take(0, 1));
        due.is("3: the same one", 1, x.same(0, 1));
        due.is("3: itself", 1, x.take(1, 1));
        due.is("3: itself, still there", 14, x.look(1, 0, 0, 0, 0));
        x.write(0, 1, 1, 0, 0, 4, 77);
        x.look(1, 1, 1, 0, 0);
        due.is("3: what is done to one is done to both", 77, x.seen());
        for (int bad : new int[] {-1, 10, Integer.MIN_VALUE, Integer.MAX_VALUE}) {
            due.is("3: BAD", -1, x.take(bad, 1));
            due.is("3: BAD", -1, x.take(0, bad));
        }
        due.is("3: BAD changes nothing", 1, x.same(0, 1));
        due.is("3: NOTHING over a ROW", 0, x.take(0, 9));
        due.is("3: it is gone", 40, x.look(0, 0, 0, 0, 0));
        due.is("3: the other one stays", 14, x.look(1, 0, 0, 0, 0));
    }

    private static void empties() {
        DrillCores x = new DrillCores();
        due.is("4: NOTHING", 0, x.empty(9));
        x.make(9, 4, 1, 2);
        x.take(0, 9);
        due.is("4: a ROW", 1, x.empty(9));
        due.is("4: it is gone", 40, x.look(9, 0, 0, 0, 0));
        due.is("4: only there", 14, x.look(0, 0, 0, 0, 0));
        due.is("4: again", 0, x.empty(9));
        due.is("4: BAD", -1, x.empty(-1));
        due.is("4: BAD", -1, x.empty(10));
        due.is("4: boxes in use", 1, x.about(6));
    }

    private static void sames() {
        DrillCores x = new DrillCores();
        due.is("5: NOTHING both", 1, x.same(0, 9));
        due.is("5: itself", 1, x.same(4, 4));
        x.make(0, 4, 1, 2);
        x.make(1, 4, 1, 2);
        due.is("5: two that are alike", 0, x.same(0, 1));
        due.is("5: a ROW and NOTHING", 0, x.same(0, 9));
        due.is("5: NOTHING and a ROW", 0, x.same(9, 0));
        due.is("5: itself", 1, x.same(0, 0));
        x.take(1, 0);
        due.is("5: one in two", 1, x.same(1, 0));
        due.is("5: BAD", -1, x.same(-1, 0));
        due.is("5: BAD", -1, x.same(10, 0));
        due.is("5: BAD", -1, x.same(0, -1));
        due.is("5: BAD", -1, x.same(0, 10));
        due.is("5: BAD both", -1, x.same(10, 10));
    }
}
