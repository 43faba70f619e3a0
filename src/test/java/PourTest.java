/** Promises 14 and 15: pour, moved. */
public final class PourTest {
    private static final Due due = new Due();

    public static void main(String[] args) {
        poursNumbers();
        poursRows();
        poursIntoItself();
        nothing();
        places();
        misfits();
        rowsIntoNumbers();
        stopsAtTheFirst();
        ofNone();
        movedStays();
        due.end();
    }

    private static long at(DrillCores x, int box, int place) {
        x.look(box, 1, place, 0, 0);
        return x.seen();
    }

    private static void poursNumbers() {
        DrillCores x = new DrillCores();
        due.is("15: ahead of one", 0, x.moved());
        x.make(0, 5, 1, 3);
        x.make(1, 6, 1, 5);
        x.fill(1, 0, 0, 0, 1, 1);
        for (int place = 0; place < 3; place++) {
            x.write(0, 1, place, 0, 0, 5, 16777217L + place);
        }
        due.is("14: how many", 3, x.pour(0, 1));
        due.is("15: how many", 3, x.moved());
        for (int place = 0; place < 3; place++) {
            due.is("14: the nearest", Float.floatToIntBits((float) (16777217L + place)), at(x, 1, place));
            due.is("14: still there", 16777217L + place, at(x, 0, place));
        }
        due.is("14: behind them", Float.floatToIntBits(1f), at(x, 1, 3));
        due.is("14: behind them", Float.floatToIntBits(1f), at(x, 1, 4));
    }

    private static void poursRows() {
        DrillCores x = new DrillCores();
        x.make(0, 4, 2, 2);
        x.make(1, 4, 2, 2);
        x.make(2, 4, 1, 1);
        x.make(3, 4, 1, 1);
        x.hang(0, 1, 1, 0, 0, 2);
        x.hang(1, 1, 0, 0, 0, 3);
        due.is("14: how many", 2, x.pour(0, 1));
        due.is("14: NOTHING comes too", 40, x.look(1, 1, 0, 0, 0));
        x.lift(1, 1, 1, 0, 0, 5);
        due.is("14: the same row", 1, x.same(2, 5));
        x.make(6, 0, 3, 2);
        x.make(7, 5, 2, 2);
        due.is("14: NOTHING into rows of any kind", 2, x.pour(6, 7));
    }

    private static void poursIntoItself() {
        DrillCores x = new DrillCores();
        x.make(0, 0, 1, 8);
        x.write(0, 1, 7, 0, 0, 0, 1);
        x.take(1, 0);
        due.is("14: itself", 8, x.pour(0, 0));
        due.is("14: itself in another box", 8, x.pour(0, 1));
        due.is("14: as it was", 1, at(x, 0, 7));
        due.is("14: as it was", 0, at(x, 0, 6));
    }

    private static void nothing() {
        DrillCores x = new DrillCores();
        x.make(0, 4, 1, 2);
        x.make(1, 4, 1, 0);
        x.pour(0, 0);
        due.is("15: two", 2, x.moved());
        due.is("14: the first one", Cause.NOTHING, x.pour(9, 0));
        due.is("15: none", 0, x.moved());
        x.pour(0, 0);
        due.is("14: the other one", Cause.NOTHING, x.pour(0, 9));
        due.is("15: none", 0, x.moved());
        due.is("14: both", Cause.NOTHING, x.pour(9, 8));
        due.is("14: also if it has no place", Cause.NOTHING, x.pour(1, 9));
        due.is("14: met", 4, x.about(1));
    }

    private static void places() {
        DrillCores x = new DrillCores();
        x.make(0, 4, 1, 4);
        x.make(1, 4, 1, 3);
        x.fill(0, 0, 0, 0, 4, 6);
        due.is("14: one too many", Cause.PLACE, x.pour(0, 1));
        due.is("15: those ahead", 3, x.moved());
        due.is("14: those ahead came", 6, at(x, 1, 2));
        x.make(2, 4, 1, 0);
        due.is("14: the first one", Cause.PLACE, x.pour(0, 2));
        due.is("15: none", 0, x.moved());
        x.make(3, 1, 1, 0);
        due.is("14: PLACE ahead of a kind", Cause.PLACE, x.pour(0, 3));
        x.make(4, 4, 2, 0);
        due.is("14: PLACE ahead of a number into rows", Cause.PLACE, x.pour(0, 4));
        due.is("14: met", 4, x.about(3));
        due.is("14: met", 0, x.about(4));
    }

    private static void misfits() {
        String[] into = {"0", "124567", "24567", "34567", "4567", "567", "67", "7"};
        for (int kind = 0; kind < 8; kind++) {
            for (int other = 0; other < 8; other++) {
                DrillCores x = new DrillCores();
                x.make(0, kind, 1, 2);
                x.make(1, other, 1, 2);
                boolean goes = into[kind].indexOf('0' + other) >= 0;
                due.is("14: " + kind + " into " + other, goes ? 2 : Cause.MISFIT, x.pour(0, 1));
                due.is("15: how many", goes ? 2 : 0, x.moved());
                x.make(2, kind, 2, 2);
                x.make(3, other, 3, 2);
                due.is("14: numbers into rows", Cause.MISFIT, x.pour(0, 2));
                due.is("14: numbers into rows of rows", Cause.MISFIT, x.pour(0, 3));
                x.hang(2, 1, 0, 0, 0, 0);
                due.is("14: another depth", Cause.MISFIT, x.pour(2, 3));
                x.make(4, other, 2, 2);
                due.is("14: another kind", kind == other ? 2 : Cause.MISFIT, x.pour(2, 4));
                due.is("14: what came", kind == other ? 10 + kind : 40, x.look(4, 1, 0, 0, 0));
            }
        }
    }

    private static void rowsIntoNumbers() {
        DrillCores x = new DrillCores();
        x.make(0, 4, 2, 2);
        x.make(1, 4, 1, 0);
        x.make(2, 4, 1, 2);
        due.is("14: NOTHING into numbers", Cause.MISFIT, x.pour(0, 2));
        due.is("14: NOTHING into numbers ahead of PLACE", Cause.MISFIT, x.pour(0, 1));
        x.hang(0, 1, 0, 0, 0, 2);
        due.is("14: a ROW into numbers", Cause.MISFIT, x.pour(0, 2));
        due.is("14: a ROW into numbers behind PLACE", Cause.PLACE, x.pour(0, 1));
        x.make(3, 4, 2, 0);
        x.hang(0, 1, 0, 0, 0, 9);
        due.is("14: NOTHING into rows, no place", Cause.PLACE, x.pour(0, 3));
        due.is("14: met", 3, x.about(4));
        due.is("14: met", 2, x.about(3));
    }

    private static void stopsAtTheFirst() {
        DrillCores x = new DrillCores();
        x.make(0, 4, 3, 3);
        x.make(1, 4, 2, 4);
        x.make(2, 4, 2, 1);
        x.make(3, 4, 1, 1);
        x.hang(0, 1, 1, 0, 0, 2);
        x.hang(1, 1, 0, 0, 0, 3);
        x.hang(1, 1, 1, 0, 0, 3);
        x.hang(1, 1, 2, 0, 0, 3);
        due.is("14: the second one", Cause.MISFIT, x.pour(0, 1));
        due.is("15: one", 1, x.moved());
        due.is("14: the first one came", 40, x.look(1, 1, 0, 0, 0));
        due.is("14: the second one did not", 14, x.look(1, 1, 1, 0, 0));
        due.is("14: nor the third one", 14, x.look(1, 1, 2, 0, 0));
        due.is("14: met once", 1, x.about(4));
    }

    private static void ofNone() {
        DrillCores x = new DrillCores();
        x.make(0, 4, 1, 0);
        x.make(1, 0, 1, 2);
        x.make(2, 7, 3, 2);
        x.make(3, 7, 3, 0);
        x.pour(1, 1);
        due.is("14: none, of another kind", 0, x.pour(0, 1));
        due.is("15: none", 0, x.moved());
        due.is("14: none, into rows", 0, x.pour(0, 2));
        due.is("14: none, into numbers", 0, x.pour(3, 1));
        due.is("14: none into none", 0, x.pour(3, 0));
        due.is("14: met", 0, x.about(3) + x.about(4));
    }

    private static void movedStays() {
        DrillCores x = new DrillCores();
        x.make(0, 4, 1, 2);
        x.pour(0, 0);
        for (int bad : new int[] {-1, 10, Integer.MIN_VALUE, Integer.MAX_VALUE}) {
            due.is("14: BAD", -1, x.pour(bad, 0));
            due.is("14: BAD", -1, x.pour(0, bad));
            due.is("14: BAD ahead of NOTHING", -1, x.pour(9, bad));
        }
        due.is("15: BAD is passed over", 2, x.moved());
        x.fill(0, 0, 0, 0, 4, 1);
        x.empty(0);
        due.is("15: stays", 2, x.moved());
        due.is("14: BAD meets no cause", 0, x.about(1));
    }
}
