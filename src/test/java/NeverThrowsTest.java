/**
 * Rule 7 of LANGUAGE.md: no call throws, whatever its arguments, also behind the 512th call, where the
 * answers are free. So only what no call ever answers is looked for.
 */
public final class NeverThrowsTest {
    private static final int[] WILD = {Integer.MIN_VALUE, -1, 0, 1, 2, 3, 8, 9, 10, Integer.MAX_VALUE};

    private static final Due due = new Due();

    public static void main(String[] args) {
        DrillCores x = Hall.build();
        for (int a : WILD) {
            answers(x.empty(a), x.about(a), x.moved());
            for (int b : WILD) {
                answers(x.take(a, b), x.same(a, b), x.pour(a, b));
                for (int c : WILD) {
                    for (int d : WILD) {
                        four(x, a, b, c, d);
                    }
                }
            }
        }
        due.end();
    }

    /** The object is built anew as often as that, since make() has 120 ROWS in all. */
    private static void four(DrillCores old, int a, int b, int c, int d) {
        answers(old.make(a, b, c, d), old.total(a, b, c, d), old.count(a, b, c, d));
        DrillCores x = Hall.build();
        answers(x.make(a, b, c, d), x.total(a, b, c, d), x.count(a, b, c, d));
        for (int e : WILD) {
            answers(x.look(a, b, c, d, e), x.length(a, b, c, d, e), x.moved());
            for (int f : WILD) {
                answers(x.read(a, b, c, d, e, f), x.write(a, b, c, d, e, f, Long.MIN_VALUE), x.hang(a, b, c, d, e, f));
                answers(x.lift(a, b, c, d, e, f), x.turn(a, b, c, d, e, f), x.fill(a, b, c, d, f, -1L));
            }
        }
    }

    private static void answers(int... found) {
        for (int answer : found) {
            due.holds("no call answers " + answer, answer >= -2 || answer <= -11 && answer >= -15);
        }
    }
}
