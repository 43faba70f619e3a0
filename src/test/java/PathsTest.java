/** Promises 6, 7 and 11: look, length, lift; and the CAUSES of the STEPS. */
public final class PathsTest {
    private static final Due due = new Due();

    public static void main(String[] args) {
        looks();
        lookSees();
        lengths();
        lifts();
        causesOfTheSteps();
        bad();
        due.end();
    }

    /** Box 0: depth 3 with 3 places; in place 1 what box 1 has: depth 2 with 4; in its 2 box 2: 5 shorts. */
    private static DrillCores tree() {
        DrillCores x = new DrillCores();
        x.make(0, 2, 3, 3);
        x.make(1, 2, 2, 4);
        x.make(2, 2, 1, 5);
        x.hang(0, 1, 1, 0, 0, 1);
        x.hang(1, 1, 2, 0, 0, 2);
        x.write(2, 1, 4, 0, 0, 2, -321);
        return x;
    }

    private static void looks() {
        DrillCores x = tree();
        due.is("6: no steps", 32, x.look(0, 0, -7, 99, 99));
        due.is("6: one step", 22, x.look(0, 1, 1, -7, 99));
        due.is("6: two steps", 12, x.look(0, 2, 1, 2, 99));
        due.is("6: three steps", 2, x.look(0, 3, 1, 2, 4));
        due.is("6: the number", -321, x.seen());
        due.is("6: NOTHING in a box", 40, x.look(7, 0, 0, 0, 0));
        due.is("6: NOTHING in a place", 40, x.look(0, 1, 0, 0, 0));
        due.is("6: NOTHING deeper", 40, x.look(0, 2, 1, 3, 0));
    }

    private static void lookSees() {
        DrillCores x = tree();
        due.is("6: nothing seen yet", 0, x.seen());
        x.look(2, 1, 4, 0, 0);
        x.look(0, 2, 1, 2, 0);
        x.look(0, 1, 0, 0, 0);
        x.look(2, 1, 5, 0, 0);
        x.look(2, 4, 0, 0, 0);
        due.is("6: only a number is seen", -321, x.seen());
        x.look(2, 1, 0, 0, 0);
        due.is("6: another one", 0, x.seen());
    }

    private static void lengths() {
        DrillCores x = tree();
        due.is("7: no steps", 3, x.length(0, 0, 9, 9, 9));
        due.is("7: one step", 4, x.length(0, 1, 1, 9, 9));
        due.is("7: two steps", 5, x.length(0, 2, 1, 2, 9));
        due.is("7: a number", Cause.NO_ROW, x.length(0, 3, 1, 2, 0));
        due.is("7: a number", Cause.NO_ROW, x.length(2, 1, 0, 0, 0));
        due.is("7: NOTHING in a box", Cause.NOTHING, x.length(7, 0, 0, 0, 0));
        due.is("7: NOTHING in a place", Cause.NOTHING, x.length(0, 1, 2, 0, 0));
        due.is("7: no such place", Cause.PLACE, x.length(0, 1, 3, 0, 0));
        x.make(0, 5, 2, 0);
        due.is("7: none", 0, x.length(0, 0, 0, 0, 0));
        due.is("7: met", 2, x.about(1));
        due.is("7: met", 2, x.about(2));
        due.is("7: met", 1, x.about(3));
    }

    private static void lifts() {
        DrillCores x = tree();
        due.is("11: one step", 1, x.lift(0, 1, 1, 0, 0, 5));
        due.is("11: that one", 1, x.same(5, 1));
        due.is("11: two steps", 1, x.lift(0, 2, 1, 2, 0, 6));
        due.is("11: that one", 1, x.same(6, 2));
        due.is("11: it still hangs there", 12, x.look(0, 2, 1, 2, 0));
        due.is("11: a number", Cause.NO_ROW, x.lift(0, 3, 1, 2, 0, 6));
        due.is("11: a place that is none", Cause.PLACE, x.lift(0, 1, 3, 0, 0, 6));
        due.is("11: a step at NOTHING", Cause.NOTHING, x.lift(0, 2, 0, 0, 0, 6));
        due.is("11: a box with NOTHING", Cause.NOTHING, x.lift(9, 1, 0, 0, 0, 6));
        due.is("11: a step at a number", Cause.NO_ROW, x.lift(2, 2, 0, 0, 0, 6));
        due.is("11: a cause changes no box", 1, x.same(6, 2));
        due.is("11: NOTHING", 0, x.lift(0, 1, 0, 0, 0, 6));
        due.is("11: NOTHING is there now", 40, x.look(6, 0, 0, 0, 0));
        due.is("11: into the same box", 1, x.lift(0, 1, 1, 0, 0, 0));
        due.is("11: that one", 1, x.same(0, 1));
        due.is("11: met", 2, x.about(2));
    }

    private static void causesOfTheSteps() {
        DrillCores x = tree();
        due.is("at NOTHING in a box", Cause.NOTHING, x.look(8, 1, 99, 0, 0));
        due.is("at NOTHING, first step", Cause.NOTHING, x.look(8, 3, 99, 99, 99));
        due.is("at NOTHING in a place", Cause.NOTHING, x.look(0, 2, 0, 99, 0));
        due.is("at NOTHING, third step", Cause.NOTHING, x.look(0, 3, 1, 0, 99));
        due.is("at a number", Cause.NO_ROW, x.look(2, 2, 0, 99, 0));
        due.is("at a number, third step", Cause.NO_ROW, x.look(1, 3, 2, 0, -1));
        due.is("at a number, twice", Cause.NO_ROW, x.look(2, 3, 0, 0, 0));
        due.is("place behind the last", Cause.PLACE, x.look(0, 1, 3, 0, 0));
        due.is("place below 0", Cause.PLACE, x.look(0, 1, -1, 0, 0));
        due.is("place, second step", Cause.PLACE, x.look(0, 2, 1, 4, 0));
        due.is("place, third step", Cause.PLACE, x.look(0, 3, 1, 2, 5));
        due.is("place first, though a later step is wrong too", Cause.PLACE, x.look(0, 3, 3, -1, 0));
        due.is("very small", Cause.PLACE, x.look(0, 1, Integer.MIN_VALUE, 0, 0));
        due.is("very great", Cause.PLACE, x.look(0, 1, Integer.MAX_VALUE, 0, 0));
        x.make(4, 3, 1, 0);
        due.is("a row without places", Cause.PLACE, x.look(4, 1, 0, 0, 0));
        due.is("met 1", 4, x.about(1));
        due.is("met 2", 3, x.about(2));
        due.is("met 3", 8, x.about(3));
    }

    private static void bad() {
        DrillCores x = tree();
        for (int box : new int[] {-1, 10}) {
            due.is("6: BAD box", -1, x.look(box, 0, 0, 0, 0));
            due.is("7: BAD box", -1, x.length(box, 0, 0, 0, 0));
            due.is("11: BAD box", -1, x.lift(box, 1, 0, 0, 0, 0));
            due.is("11: BAD to", -1, x.lift(0, 1, 1, 0, 0, box));
        }
        for (int s : new int[] {-1, 4, Integer.MIN_VALUE, Integer.MAX_VALUE}) {
            due.is("6: BAD steps", -1, x.look(0, s, 0, 0, 0));
            due.is("7: BAD steps", -1, x.length(0, s, 0, 0, 0));
            due.is("11: BAD steps", -1, x.lift(0, s, 1, 0, 0, 0));
        }
        due.is("11: no steps are BAD", -1, x.lift(0, 0, 0, 0, 0, 5));
        due.is("11: BAD ahead of the causes", -1, x.lift(0, 1, 9, 0, 0, 10));
        due.is("11: nothing changed", 0, x.same(0, 5));
        for (int cause = 1; cause <= 5; cause++) {
            due.is("BAD meets no cause", 0, x.about(cause));
        }
    }
}
