/** Promises 16 and 17: total, count. */
public final class TotalAndCountTest {
    private static final Due due = new Due();

    public static void main(String[] args) {
        ofNumbers();
        ofRows();
        ofMany();
        wraps();
        misfits();
        causes();
        bad();
        due.end();
    }

    private static void totals(DrillCores x, int box, int s, int a, int b, long sum, int numbers) {
        due.is("16: total", 1, x.total(box, s, a, b));
        due.is("16: the sum", sum, x.seen());
        due.is("17: count", numbers, x.count(box, s, a, b));
        due.is("17: sees nothing", sum, x.seen());
    }

    private static void ofNumbers() {
        long[] of = {0, -1, -1, 65535, -1, -1};
        for (int kind = 1; kind <= 5; kind++) {
            DrillCores x = new DrillCores();
            x.make(0, kind, 1, 8);
            totals(x, 0, 0, 99, 99, 0, 8);
            x.fill(0, 0, 0, 0, kind, -1);
            totals(x, 0, 0, 99, 99, 8 * of[kind], 8);
            x.write(0, 1, 7, 0, 0, kind, 2);
            totals(x, 0, 0, 0, 0, 7 * of[kind] + 2, 8);
            x.make(0, kind, 1, 0);
            totals(x, 0, 0, 0, 0, 0, 0);
        }
    }

    private static void ofRows() {
        DrillCores x = new DrillCores();
        x.make(0, 2, 3, 3);
        totals(x, 0, 0, 0, 0, 0, 0);
        x.make(1, 2, 2, 3);
        x.make(2, 2, 1, 2);
        x.make(3, 2, 1, 5);
        x.fill(2, 0, 0, 0, 2, 100);
        x.fill(3, 0, 0, 0, 2, -1);
        x.hang(1, 1, 0, 0, 0, 2);
        x.hang(1, 1, 2, 0, 0, 3);
        x.hang(0, 1, 1, 0, 0, 1);
        totals(x, 0, 0, 99, 99, 195, 7);
        x.hang(0, 1, 2, 0, 0, 1);
        totals(x, 0, 0, 99, 99, 390, 14);
        totals(x, 0, 1, 2, 99, 195, 7);
        totals(x, 0, 2, 2, 0, 200, 2);
        totals(x, 0, 2, 1, 2, -5, 5);
        x.hang(1, 1, 1, 0, 0, 2);
        totals(x, 1, 0, 0, 0, 395, 9);
    }

    private static void ofMany() {
        DrillCores x = new DrillCores();
        x.make(0, 4, 3, 8);
        x.make(1, 4, 2, 8);
        x.make(2, 4, 1, 8);
        x.fill(2, 0, 0, 0, 4, Integer.MAX_VALUE);
        for (int place = 0; place < 8; place++) {
            x.hang(0, 1, place, 0, 0, 1);
            x.hang(1, 1, place, 0, 0, 2);
        }
        totals(x, 0, 0, 0, 0, 512L * Integer.MAX_VALUE, 512);
    }

    private static void wraps() {
        DrillCores x = new DrillCores();
        x.make(0, 5, 1, 3);
        x.fill(0, 0, 0, 0, 5, Long.MAX_VALUE);
        totals(x, 0, 0, 0, 0, Long.MAX_VALUE - 2, 3);
    }

    private static void misfits() {
        for (int kind : new int[] {0, 6, 7}) {
            DrillCores x = new DrillCores();
            x.make(0, kind, 3, 2);
            x.make(1, kind, 2, 2);
            x.make(2, kind, 1, 0);
            x.make(3, kind, 1, 2);
            x.hang(0, 1, 0, 0, 0, 1);
            totals(x, 0, 0, 0, 0, 0, 0);
            x.hang(1, 1, 0, 0, 0, 2);
            totals(x, 0, 0, 0, 0, 0, 0);
            totals(x, 0, 2, 0, 0, 0, 0);
            x.make(4, 5, 1, 1);
            x.fill(4, 0, 0, 0, 5, 9);
            totals(x, 4, 0, 0, 0, 9, 1);
            x.hang(1, 1, 1, 0, 0, 3);
            due.is("16: a number that does not fit", Cause.MISFIT, x.total(0, 0, 0, 0));
            due.is("16: there", Cause.MISFIT, x.total(0, 1, 0, 0));
            due.is("16: there", Cause.MISFIT, x.total(0, 2, 0, 1));
            due.is("16: sees nothing", 9, x.seen());
            due.is("17: counts them", 2, x.count(0, 0, 0, 0));
            due.is("16: met", 3, x.about(4));
        }
    }

    private static void causes() {
        DrillCores x = new DrillCores();
        x.make(0, 4, 2, 2);
        x.make(1, 4, 1, 2);
        x.fill(1, 0, 0, 0, 4, 3);
        x.hang(0, 1, 1, 0, 0, 1);
        x.look(1, 1, 0, 0, 0);
        int[][] paths = {{9, 0, 0, 0}, {0, 1, 0, 0}, {0, 2, 0, 0}, {9, 1, 0, 0}, {1, 1, 0, 0}, {0, 2, 1, 0},
            {1, 2, 0, 0}, {0, 1, 2, 0}, {0, 2, -1, 0}, {0, 2, 1, 2}};
        int[] want = {Cause.NOTHING, Cause.NOTHING, Cause.NOTHING, Cause.NOTHING, Cause.NO_ROW, Cause.NO_ROW,
            Cause.NO_ROW, Cause.PLACE, Cause.PLACE, Cause.PLACE};
        for (int i = 0; i < paths.length; i++) {
            int[] p = paths[i];
            due.is("16: path " + i, want[i], x.total(p[0], p[1], p[2], p[3]));
            due.is("17: path " + i, want[i], x.count(p[0], p[1], p[2], p[3]));
        }
        due.is("16, 17: sees nothing", 3, x.seen());
        due.is("16, 17: met 1", 8, x.about(1));
        due.is("16, 17: met 2", 6, x.about(2));
        due.is("16, 17: met 3", 6, x.about(3));
    }

    private static void bad() {
        DrillCores x = new DrillCores();
        x.make(0, 4, 1, 2);
        int[][] bad = {{-1, 0}, {10, 0}, {0, -1}, {0, 3}, {0, Integer.MIN_VALUE}, {0, Integer.MAX_VALUE}};
        for (int[] b : bad) {
            due.is("16: BAD", -1, x.total(b[0], b[1], 0, 0));
            due.is("17: BAD", -1, x.count(b[0], b[1], 0, 0));
        }
        due.is("16, 17: BAD meets no cause", 0, x.about(1) + x.about(2) + x.about(3));
    }
}
