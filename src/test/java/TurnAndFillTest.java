/** Promises 12 and 13: turn, fill. */
public final class TurnAndFillTest {
    private static final Due due = new Due();

    public static void main(String[] args) {
        turnsNumbers();
        turnsRows();
        turnCauses();
        fills();
        fillGoesInto();
        fillCauses();
        fillOfNone();
        bad();
        due.end();
    }

    /** Box 0: depth 3, box 1 in its place 1; box 1: depth 2, box 2 in its place 1; box 2: ints. */
    private static DrillCores tree(int n) {
        DrillCores x = new DrillCores();
        x.make(0, 4, 3, 2);
        x.make(1, 4, 2, 2);
        x.make(2, 4, 1, n);
        x.hang(0, 1, 1, 0, 0, 1);
        x.hang(1, 1, 1, 0, 0, 2);
        return x;
    }

    private static void number(DrillCores x, int box, int place, long want) {
        due.is("place " + place, 4, x.look(box, 1, place, 0, 0));
        due.is("place " + place, want, x.seen());
    }

    private static void turnsNumbers() {
        DrillCores x = tree(3);
        for (int place = 0; place < 3; place++) {
            x.write(2, 1, place, 0, 0, 4, place + 50);
        }
        due.is("12: two steps", 1, x.turn(0, 2, 1, 1, 0, 2));
        number(x, 2, 0, 52);
        number(x, 2, 1, 51);
        number(x, 2, 2, 50);
        due.is("12: no steps", 1, x.turn(2, 0, 99, 99, 1, 0));
        number(x, 2, 0, 51);
        number(x, 2, 1, 52);
        due.is("12: one place", 1, x.turn(2, 0, 0, 0, 1, 1));
        number(x, 2, 1, 52);
    }

    private static void turnsRows() {
        DrillCores x = tree(3);
        due.is("12: rows", 1, x.turn(0, 0, 0, 0, 0, 1));
        due.is("12: it is here", 24, x.look(0, 1, 0, 0, 0));
        due.is("12: not there", 40, x.look(0, 1, 1, 0, 0));
        due.is("12: one step", 1, x.turn(0, 1, 0, 99, 1, 0));
        due.is("12: it is here", 14, x.look(1, 1, 0, 0, 0));
        due.is("12: not there", 40, x.look(1, 1, 1, 0, 0));
        due.is("12: one place", 1, x.turn(1, 0, 0, 0, 0, 0));
        due.is("12: it is here", 14, x.look(1, 1, 0, 0, 0));
        x.take(5, 2);
        x.lift(1, 1, 0, 0, 0, 6);
        due.is("12: that one", 1, x.same(5, 6));
    }

    private static void turnCauses() {
        DrillCores x = tree(2);
        x.write(2, 1, 0, 0, 0, 4, 5);
        due.is("12: i", Cause.PLACE, x.turn(2, 0, 0, 0, 2, 0));
        due.is("12: j", Cause.PLACE, x.turn(2, 0, 0, 0, 0, 2));
        due.is("12: i", Cause.PLACE, x.turn(2, 0, 0, 0, -1, 0));
        due.is("12: j", Cause.PLACE, x.turn(0, 0, 0, 0, 0, -1));
        due.is("12: both", Cause.PLACE, x.turn(0, 0, 0, 0, Integer.MAX_VALUE, Integer.MIN_VALUE));
        due.is("12: both the same", Cause.PLACE, x.turn(0, 0, 0, 0, 2, 2));
        due.is("12: a step", Cause.PLACE, x.turn(0, 1, 2, 0, 0, 0));
        due.is("12: met once each", 7, x.about(3));
        due.is("12: NOTHING", Cause.NOTHING, x.turn(9, 0, 0, 0, 99, 0));
        due.is("12: NOTHING", Cause.NOTHING, x.turn(0, 1, 0, 0, 99, 0));
        due.is("12: a step at NOTHING", Cause.NOTHING, x.turn(0, 2, 0, 99, 99, 0));
        due.is("12: a number", Cause.NO_ROW, x.turn(2, 1, 0, 0, 99, 0));
        due.is("12: a step at a number", Cause.NO_ROW, x.turn(2, 2, 0, 0, 99, 0));
        due.is("12: met", 3, x.about(1));
        due.is("12: met", 2, x.about(2));
        number(x, 2, 0, 5);
        number(x, 2, 1, 0);
        due.is("12: met no other", 0, x.about(4));
    }

    private static void fills() {
        DrillCores x = tree(8);
        due.is("13: two steps", 8, x.fill(0, 2, 1, 1, 4, 0x1_0000_0005L));
        for (int place = 0; place < 8; place++) {
            number(x, 2, place, 5);
        }
        due.is("13: one step", 8, x.fill(1, 1, 1, 99, 1, 0xff));
        number(x, 2, 0, -1);
        number(x, 2, 7, -1);
        due.is("13: no steps", 8, x.fill(2, 0, 99, 99, 3, -1));
        number(x, 2, 4, 65535);
    }

    private static void fillGoesInto() {
        DrillCores x = new DrillCores();
        x.make(0, 7, 1, 2);
        due.is("13: a float", 2, x.fill(0, 0, 0, 0, 6, 0xffc00001L));
        x.look(0, 1, 1, 0, 0);
        due.is("13: no number", 9221120237041090560L, x.seen());
        due.is("13: a long", 2, x.fill(0, 0, 0, 0, 5, (1L << 53) + 1));
        x.look(0, 1, 1, 0, 0);
        due.is("13: the nearest", Double.doubleToLongBits(0x1p53), x.seen());
        due.is("13: a truth", Cause.MISFIT, x.fill(0, 0, 0, 0, 0, 1));
        x.make(1, 0, 1, 3);
        due.is("13: a truth", 3, x.fill(1, 0, 0, 0, 0, 3));
        x.look(1, 1, 2, 0, 0);
        due.is("13: a truth", 1, x.seen());
    }

    private static void fillCauses() {
        DrillCores x = tree(2);
        x.fill(2, 0, 0, 0, 4, 5);
        due.is("13: does not fit", Cause.MISFIT, x.fill(2, 0, 0, 0, 5, 9));
        due.is("13: does not fit", Cause.MISFIT, x.fill(0, 2, 1, 1, 6, 9));
        due.is("13: rows", Cause.NO_ROW, x.fill(0, 0, 0, 0, 4, 9));
        due.is("13: rows ahead of MISFIT", Cause.NO_ROW, x.fill(0, 1, 1, 0, 0, 9));
        due.is("13: a number", Cause.NO_ROW, x.fill(2, 1, 0, 0, 4, 9));
        due.is("13: a step at a number", Cause.NO_ROW, x.fill(2, 2, 0, 99, 4, 9));
        due.is("13: NOTHING", Cause.NOTHING, x.fill(9, 0, 0, 0, 4, 9));
        due.is("13: NOTHING ahead of MISFIT", Cause.NOTHING, x.fill(0, 1, 0, 0, 0, 9));
        due.is("13: a step at NOTHING", Cause.NOTHING, x.fill(0, 2, 0, 0, 4, 9));
        due.is("13: a step", Cause.PLACE, x.fill(0, 1, 2, 0, 4, 9));
        due.is("13: a step", Cause.PLACE, x.fill(0, 2, 1, -1, 4, 9));
        number(x, 2, 0, 5);
        number(x, 2, 1, 5);
        due.is("13: met 1", 3, x.about(1));
        due.is("13: met 2", 4, x.about(2));
        due.is("13: met 3", 2, x.about(3));
        due.is("13: met 4", 2, x.about(4));
    }

    private static void fillOfNone() {
        DrillCores x = new DrillCores();
        for (int depth = 1; depth <= 3; depth++) {
            x.make(0, 4, depth, 0);
            due.is("13: no first place", 0, x.fill(0, 0, 0, 0, 4, 9));
            due.is("13: no first place, no MISFIT", 0, x.fill(0, 0, 0, 0, 7, 9));
            due.is("12: no place", Cause.PLACE, x.turn(0, 0, 0, 0, 0, 0));
        }
        due.is("13: met", 0, x.about(2) + x.about(4));
    }

    private static void bad() {
        DrillCores x = tree(2);
        x.write(2, 1, 0, 0, 0, 4, 5);
        int[][] bad = {{-1, 0}, {10, 0}, {2, -1}, {2, 3}, {2, Integer.MAX_VALUE}, {2, Integer.MIN_VALUE}};
        for (int[] b : bad) {
            due.is("12: BAD", -1, x.turn(b[0], b[1], 0, 0, 0, 1));
            due.is("13: BAD", -1, x.fill(b[0], b[1], 0, 0, 4, 9));
        }
        due.is("13: BAD kind", -1, x.fill(2, 0, 0, 0, 8, 9));
        due.is("13: BAD kind", -1, x.fill(2, 0, 0, 0, -1, 9));
        due.is("13: BAD ahead of the causes", -1, x.fill(9, 0, 0, 0, 8, 9));
        number(x, 2, 0, 5);
        number(x, 2, 1, 0);
        due.is("12, 13: BAD meets no cause", 0, x.about(1) + x.about(2) + x.about(3) + x.about(4));
    }
}
