import java.util.ArrayList;
import java.util.List;

/**
 * One object with something of everything in it, and all that can be asked about it: so a test can say
 * that a refused call left everything as it was. Every question is asked of an object of its own,
 * because asking changes what is SEEN.
 */
final class Hall {
    interface Call {
        long on(DrillCores x);
    }

    private record Question(String text, int aboutCause, Call call) {
    }

    private static final int NO_CAUSE = 0;
    private static final List<Question> QUESTIONS = questions();
    private static final long[] AT_FIRST = answers(x -> 0);

    private Hall() {
    }

    /**
     * Box 0: depth 3, of ints, box 1's row in places 0 and 2, NOTHING in 1. Box 1: depth 2, box 2's row in
     * place 0, NOTHING in 1, box 3's row in 2. Box 2: ints 7, -8, 9. Box 3: ints 21, 22. Box 4: floats 1.5
     * and -0. Box 5: truths 0, 1. Box 6: depth 2, of ints, no places. Box 7: bytes -1, 2, -3, 4. Boxes 8
     * and 9: NOTHING. -8 is SEEN, 3 MOVED, and each CAUSE was met as often as its number says.
     */
    static DrillCores build() {
        DrillCores x = new DrillCores();
        int[][] rows = {{4, 3, 3}, {4, 2, 3}, {4, 1, 3}, {4, 1, 2}, {6, 1, 2}, {0, 1, 2}, {4, 2, 0}, {1, 1, 4}};
        for (int box = 0; box < rows.length; box++) {
            x.make(box, rows[box][0], rows[box][1], rows[box][2]);
        }
        x.hang(1, 1, 0, 0, 0, 2);
        x.hang(1, 1, 2, 0, 0, 3);
        x.hang(0, 1, 0, 0, 0, 1);
        x.hang(0, 1, 2, 0, 0, 1);
        put(x, 2, 4, 7, -8, 9);
        put(x, 3, 4, 21, 22);
        put(x, 4, 6, 0x3fc00000, 0x80000000);
        put(x, 5, 0, 0, 1);
        put(x, 7, 1, -1, 2, -3, 4);
        meetCauses(x);
        x.pour(2, 2);
        x.look(2, 1, 1, 0, 0);
        return x;
    }

    static void put(DrillCores x, int box, int kind, long... bits) {
        for (int place = 0; place < bits.length; place++) {
            x.write(box, 1, place, 0, 0, kind, bits[place]);
        }
    }

    private static void meetCauses(DrillCores x) {
        for (int cause = 1; cause <= 5; cause++) {
            for (int time = 0; time < cause; time++) {
                meet(x, cause);
            }
        }
    }

    private static void meet(DrillCores x, int cause) {
        switch (cause) {
            case 1: x.length(9, 0, 0, 0, 0); break;
            case 2: x.length(2, 1, 0, 0, 0); break;
            case 3: x.length(2, 1, 3, 0, 0); break;
            case 4: x.read(5, 1, 0, 0, 0, 4); break;
            default: x.make(9, 4, 1, -1); break;
        }
    }

    /** That the object is what build() says, by numbers: else two that are wrong alike would be alike. */
    static void isAsTold(Sentences s) {
        DrillCores x = build();
        s.is("the hall: seen()", -8, x.seen());
        s.is("the hall: moved()", 3, x.moved());
        int[] about = {8, 1, 2, 3, 4, 5, 8};
        for (int what = 0; what <= 6; what++) {
            s.is("the hall: about(" + what + ")", about[what], x.about(what));
        }
        int[] looks = {34, 24, 14, 14, 16, 10, 24, 11, 40, 40};
        for (int box = 0; box <= 9; box++) {
            s.is("the hall: look at box " + box, looks[box], x.look(box, 0, 0, 0, 0));
        }
        numbersAre(s, x, 2, 7, -8, 9);
        numbersAre(s, x, 3, 21, 22);
        numbersAre(s, x, 4, 0x3fc00000, -2147483648L);
        numbersAre(s, x, 5, 0, 1);
        numbersAre(s, x, 7, -1, 2, -3, 4);
        int[][] hung = {{0, 0, 24}, {0, 1, 40}, {0, 2, 24}, {1, 0, 14}, {1, 1, 40}, {1, 2, 14}};
        for (int[] h : hung) {
            s.is("the hall: place " + h[1] + " of box " + h[0], h[2], x.look(h[0], 1, h[1], 0, 0));
        }
    }

    private static void numbersAre(Sentences s, DrillCores x, int box, long... want) {
        s.is("the hall: places in box " + box, want.length, x.length(box, 0, 0, 0, 0));
        for (int place = 0; place < want.length; place++) {
            x.look(box, 1, place, 0, 0);
            s.is("the hall: number " + place + " in box " + box, want[place], x.seen());
        }
    }

    /** The call answers so, and but for the CAUSE that the answer tells nothing is changed by it. */
    static void refuses(Sentences s, String text, long answer, Call call) {
        s.is(text, answer, call.on(build()));
        int cause = answer <= -11 && answer >= -15 ? (int) (-10 - answer) : NO_CAUSE;
        compare(s, text, AT_FIRST, answers(call), cause);
    }

    /** Both ways leave an object of which all is the same, but that the first one met the CAUSE once more. */
    static void alike(Sentences s, String text, Call one, Call other, int causeMore) {
        compare(s, text, answers(other), answers(one), causeMore);
    }

    /** The call leaves everything as it was. */
    static void unchanged(Sentences s, String text, Call call) {
        compare(s, text, AT_FIRST, answers(call), NO_CAUSE);
    }

    private static void compare(Sentences s, String text, long[] want, long[] got, int cause) {
        for (int i = 0; i < want.length; i++) {
            Question q = QUESTIONS.get(i);
            long more = q.aboutCause() != NO_CAUSE && q.aboutCause() == cause ? 1 : 0;
            s.is(text + ", then " + q.text(), want[i] + more, got[i]);
        }
    }

    private static long[] answers(Call first) {
        long[] found = new long[QUESTIONS.size()];
        for (int i = 0; i < found.length; i++) {
            DrillCores x = build();
            first.on(x);
            found[i] = QUESTIONS.get(i).call().on(x);
        }
        return found;
    }

    private static List<Question> questions() {
        List<Question> all = new ArrayList<>();
        all.add(new Question("seen()", NO_CAUSE, x -> x.seen()));
        all.add(new Question("moved()", NO_CAUSE, x -> x.moved()));
        for (int what = 0; what <= 6; what++) {
            int w = what;
            all.add(new Question("about(" + w + ")", w == 6 ? NO_CAUSE : w, x -> x.about(w)));
        }
        for (int box = 0; box < 10; box++) {
            askAlongPaths(all, box);
            askWhichRows(all, box);
        }
        return all;
    }

    private static void askAlongPaths(List<Question> all, int box) {
        askAt(all, box, 0, 0, 0, 0);
        for (int a = 0; a < 4; a++) {
            askAt(all, box, 1, a, 0, 0);
            for (int b = 0; b < 3; b++) {
                askAt(all, box, 2, a, b, 0);
                for (int c = 0; c < 3; c++) {
                    askAt(all, box, 3, a, b, c);
                }
            }
        }
    }

    private static void askAt(List<Question> all, int box, int s, int a, int b, int c) {
        String path = "(" + box + ", " + s + ", " + a + ", " + b + ", " + c + ")";
        all.add(new Question("look" + path, NO_CAUSE, x -> x.look(box, s, a, b, c)));
        all.add(new Question("look" + path + " and seen()", NO_CAUSE, x -> {
            x.look(box, s, a, b, c);
            return x.seen();
        }));
        all.add(new Question("length" + path, NO_CAUSE, x -> x.length(box, s, a, b, c)));
    }

    private static void askWhichRows(List<Question> all, int box) {
        for (int other = 0; other < 10; other++) {
            int o = other;
            all.add(new Question("same(" + box + ", " + o + ")", NO_CAUSE, x -> x.same(box, o)));
            for (int a = 0; a < 3; a++) {
                int place = a;
                String one = "lift(" + box + ", 1, " + place + ", 0, 0, 9) and same(9, " + o + ")";
                all.add(new Question(one, NO_CAUSE, x -> {
                    x.lift(box, 1, place, 0, 0, 9);
                    return x.same(9, o);
                }));
                String two = "lift(" + box + ", 2, 0, " + place + ", 0, 9) and same(9, " + o + ")";
                all.add(new Question(two, NO_CAUSE, x -> {
                    x.lift(box, 2, 0, place, 0, 9);
                    return x.same(9, o);
                }));
            }
        }
    }
}
