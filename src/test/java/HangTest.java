/** Promise 10: hang. */
public final class HangTest {
    private static final Due due = new Due();

    public static void main(String[] args) {
        hangs();
        hangsInMany();
        rowsTake();
        numbersTakeNone();
        causesOfTheSteps();
        bad();
        due.end();
    }

    private static void hangs() {
        DrillCores x = new DrillCores();
        x.make(0, 6, 3, 2);
        x.make(1, 6, 2, 2);
        x.make(2, 6, 1, 2);
        due.is("10: two into three", 1, x.hang(0, 1, 1, 0, 0, 1));
        due.is("10: one into two, by a path", 1, x.hang(0, 2, 1, 0, 0, 2));
        due.is("10: there", 16, x.look(1, 1, 0, 0, 0));
        due.is("10: there", 26, x.look(0, 1, 1, 0, 0));
        due.is("10: that one", 1, x.lift(0, 2, 1, 0, 0, 5));
        due.is("10: that one", 1, x.same(5, 2));
        due.is("10: not in the other place", 40, x.look(0, 1, 0, 0, 0));
        due.is("10: NOTHING", 1, x.hang(0, 2, 1, 0, 0, 9));
        due.is("10: it is gone", 40, x.look(1, 1, 0, 0, 0));
        due.is("10: the box still has it", 16, x.look(2, 0, 0, 0, 0));
    }

    private static void hangsInMany() {
        DrillCores x = new DrillCores();
        x.make(0, 4, 2, 3);
        x.make(1, 4, 1, 1);
        for (int place = 0; place < 3; place++) {
            x.hang(0, 1, place, 0, 0, 1);
        }
        x.empty(1);
        x.write(0, 2, 1, 0, 0, 4, 8);
        for (int place = 0; place < 3; place++) {
            x.look(0, 2, place, 0, 0);
            due.is("10: done in all of them", 8, x.seen());
        }
    }

    private static void rowsTake() {
        for (int depth = 2; depth <= 3; depth++) {
            DrillCores x = new DrillCores();
            x.make(0, 4, depth, 2);
            for (int hung = 1; hung <= 3; hung++) {
                for (int kind = 0; kind < 8; kind++) {
                    x.make(1, kind, hung, 1);
                    boolean fits = kind == 4 && hung == depth - 1;
                    due.is("10: " + kind + " of depth " + hung, fits ? 1 : Cause.MISFIT, x.hang(0, 1, 0, 0, 0, 1));
                    due.is("10: PLACE ahead of MISFIT", Cause.PLACE, x.hang(0, 1, 2, 0, 0, 1));
                    due.is("10: PLACE ahead of MISFIT", Cause.PLACE, x.hang(0, 1, -1, 0, 0, 1));
                }
            }
            due.is("10: a cause changes nothing", 4 + 10 * (depth - 1), x.look(0, 1, 0, 0, 0));
            due.is("10: itself", Cause.MISFIT, x.hang(0, 1, 0, 0, 0, 0));
            due.is("10: NOTHING", 1, x.hang(0, 1, 0, 0, 0, 9));
            due.is("10: NOTHING, no such place", Cause.PLACE, x.hang(0, 1, 2, 0, 0, 9));
            due.is("10: met 3", 49, x.about(3));
            due.is("10: met 4", 24, x.about(4));
        }
    }

    private static void numbersTakeNone() {
        DrillCores x = new DrillCores();
        x.make(0, 4, 1, 2);
        x.make(1, 4, 1, 2);
        x.make(2, 4, 2, 2);
        x.hang(2, 1, 0, 0, 0, 0);
        due.is("10: a ROW", Cause.MISFIT, x.hang(0, 1, 0, 0, 0, 1));
        due.is("10: a ROW, no such place", Cause.PLACE, x.hang(0, 1, 2, 0, 0, 1));
        due.is("10: a ROW, no such place", Cause.PLACE, x.hang(2, 2, 0, -1, 0, 1));
        due.is("10: NOTHING", Cause.MISFIT, x.hang(0, 1, 0, 0, 0, 9));
        due.is("10: NOTHING, no such place", Cause.MISFIT, x.hang(0, 1, 2, 0, 0, 9));
        due.is("10: NOTHING, no such place", Cause.MISFIT, x.hang(2, 2, 0, -1, 0, 9));
        due.is("10: met 3", 2, x.about(3));
        due.is("10: met 4", 4, x.about(4));
    }

    private static void causesOfTheSteps() {
        DrillCores x = new DrillCores();
        x.make(0, 4, 2, 2);
        x.make(1, 4, 1, 2);
        x.hang(0, 1, 0, 0, 0, 1);
        for (int from : new int[] {1, 9}) {
            due.is("10: a box with NOTHING", Cause.NOTHING, x.hang(8, 1, 99, 0, 0, from));
            due.is("10: a place with NOTHING", Cause.NOTHING, x.hang(0, 2, 1, 99, 0, from));
            due.is("10: a number", Cause.NO_ROW, x.hang(0, 3, 0, 0, 99, from));
            due.is("10: a number", Cause.NO_ROW, x.hang(1, 2, 0, 99, 0, from));
            due.is("10: a step at a number", Cause.NO_ROW, x.hang(1, 3, 0, 0, 0, from));
            due.is("10: a step to no place", Cause.PLACE, x.hang(0, 2, 2, 0, 0, from));
        }
        due.is("10: met 1", 4, x.about(1));
        due.is("10: met 2", 6, x.about(2));
        due.is("10: met 3", 2, x.about(3));
        due.is("10: met 4", 0, x.about(4));
    }

    private static void bad() {
        DrillCores x = new DrillCores();
        x.make(0, 4, 2, 2);
        x.make(1, 4, 1, 2);
        int[][] bad = {{-1, 1, 1}, {10, 1, 1}, {0, 0, 1}, {0, -1, 1}, {0, 4, 1}, {0, 1, -1}, {0, 1, 10}, {9, 1, 10}};
        for (int[] b : bad) {
            due.is("10: BAD", -1, x.hang(b[0], b[1], 0, 0, 0, b[2]));
        }
        due.is("10: BAD changes nothing", 40, x.look(0, 1, 0, 0, 0));
        due.is("10: BAD meets no cause", 0, x.about(1));
    }
}
