/** Promise 19: about. */
public final class AboutTest {
    private static final Due due = new Due();

    public static void main(String[] args) {
        ofANewObject();
        causes();
        rowsAndBoxes();
        bad();
        due.end();
    }

    private static void all(DrillCores x, int... want) {
        for (int what = 0; what <= 6; what++) {
            due.is("19: about " + what, want[what], x.about(what));
        }
    }

    private static void ofANewObject() {
        all(new DrillCores(), 0, 0, 0, 0, 0, 0, 0);
    }

    private static void causes() {
        DrillCores x = new DrillCores();
        x.look(0, 1, 0, 0, 0);
        all(x, 0, 1, 0, 0, 0, 0, 0);
        x.make(0, 0, 1, 1);
        x.length(0, 1, 0, 0, 0);
        x.length(0, 1, 0, 0, 0);
        all(x, 1, 1, 2, 0, 0, 0, 1);
        for (int i = 0; i < 3; i++) {
            x.read(0, 1, 1, 0, 0, 0);
        }
        all(x, 1, 1, 2, 3, 0, 0, 1);
        for (int i = 0; i < 4; i++) {
            x.total(0, 0, 0, 0);
        }
        all(x, 1, 1, 2, 3, 4, 0, 1);
        for (int i = 0; i < 5; i++) {
            x.make(i, 4, 1, -1);
        }
        all(x, 1, 1, 2, 3, 4, 5, 1);
        x.make(0, 4, 1, 9);
        x.make(0, 8, 1, 1);
        all(x, 1, 1, 2, 3, 4, 5, 1);
    }

    private static void rowsAndBoxes() {
        DrillCores x = new DrillCores();
        x.make(0, 4, 2, 1);
        x.make(0, 4, 1, 1);
        all(x, 2, 0, 0, 0, 0, 0, 1);
        for (int box = 1; box < 10; box++) {
            x.take(box, 0);
        }
        all(x, 2, 0, 0, 0, 0, 0, 10);
        x.empty(0);
        x.empty(9);
        all(x, 2, 0, 0, 0, 0, 0, 8);
    }

    private static void bad() {
        DrillCores x = new DrillCores();
        due.is("19: BAD", -1, x.about(-1));
        due.is("19: BAD", -1, x.about(7));
        due.is("19: BAD", -1, x.about(Integer.MIN_VALUE));
        due.is("19: BAD", -1, x.about(Integer.MAX_VALUE));
    }
}
