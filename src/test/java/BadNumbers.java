import java.util.ArrayList;
import java.util.List;

/**
 * Every argument of every method that has to name something: a BOX, KIND, DEPTH, STEPS or what about()
 * is asked; each with the least and the greatest number that names one.
 */
final class BadNumbers {
    private interface With {
        long on(DrillCores x, int number);
    }

    /** The second call has other arguments that would meet a CAUSE, if the number named something. */
    private record Argument(String method, String name, int least, int most, With good, With awry) {
    }

    private static final List<Argument> ALL = new ArrayList<>();

    static {
        boxesOnly();
        paths();
        numbers();
        shortPaths();
    }

    private BadNumbers() {
    }

    private static void add(String method, String name, int least, int most, With good, With awry) {
        ALL.add(new Argument(method, name, least, most, good, awry));
    }

    private static void boxesOnly() {
        add("make", "box", 0, 9, (x, n) -> x.make(n, 4, 1, 1), (x, n) -> x.make(n, 4, 1, -1));
        add("make", "kind", 0, 7, (x, n) -> x.make(9, n, 1, 1), (x, n) -> x.make(9, n, 1, -1));
        add("make", "depth", 1, 3, (x, n) -> x.make(9, 4, n, 1), (x, n) -> x.make(9, 4, n, -1));
        add("take", "box", 0, 9, (x, n) -> x.take(n, 2), (x, n) -> x.take(n, 9));
        add("take", "from", 0, 9, (x, n) -> x.take(2, n), (x, n) -> x.take(9, n));
        add("empty", "box", 0, 9, (x, n) -> x.empty(n), (x, n) -> x.empty(n));
        add("same", "box", 0, 9, (x, n) -> x.same(n, 2), (x, n) -> x.same(n, 9));
        add("same", "other", 0, 9, (x, n) -> x.same(2, n), (x, n) -> x.same(9, n));
        add("pour", "box", 0, 9, (x, n) -> x.pour(n, 2), (x, n) -> x.pour(n, 9));
        add("pour", "to", 0, 9, (x, n) -> x.pour(2, n), (x, n) -> x.pour(9, n));
        add("about", "what", 0, 6, (x, n) -> x.about(n), (x, n) -> x.about(n));
    }

    private static void paths() {
        add("look", "box", 0, 9, (x, n) -> x.look(n, 0, 0, 0, 0), (x, n) -> x.look(n, 1, 99, 0, 0));
        add("look", "s", 0, 3, (x, n) -> x.look(0, n, 0, 0, 0), (x, n) -> x.look(9, n, 99, 0, 0));
        add("length", "box", 0, 9, (x, n) -> x.length(n, 0, 0, 0, 0), (x, n) -> x.length(n, 1, 99, 0, 0));
        add("length", "s", 0, 3, (x, n) -> x.length(0, n, 0, 0, 0), (x, n) -> x.length(9, n, 99, 0, 0));
        add("hang", "box", 0, 9, (x, n) -> x.hang(n, 1, 0, 0, 0, 3), (x, n) -> x.hang(n, 1, 99, 0, 0, 9));
        add("hang", "s", 1, 3, (x, n) -> x.hang(0, n, 0, 0, 0, 3), (x, n) -> x.hang(9, n, 99, 0, 0, 9));
        add("hang", "from", 0, 9, (x, n) -> x.hang(1, 1, 0, 0, 0, n), (x, n) -> x.hang(9, 1, 99, 0, 0, n));
        add("lift", "box", 0, 9, (x, n) -> x.lift(n, 1, 0, 0, 0, 2), (x, n) -> x.lift(n, 1, 99, 0, 0, 2));
        add("lift", "s", 1, 3, (x, n) -> x.lift(0, n, 0, 0, 0, 2), (x, n) -> x.lift(9, n, 99, 0, 0, 2));
        add("lift", "to", 0, 9, (x, n) -> x.lift(1, 1, 0, 0, 0, n), (x, n) -> x.lift(9, 1, 99, 0, 0, n));
    }

    private static void numbers() {
        add("read", "box", 0, 9, (x, n) -> x.read(n, 1, 0, 0, 0, 4), (x, n) -> x.read(n, 1, 99, 0, 0, 0));
        add("read", "s", 1, 3, (x, n) -> x.read(2, n, 0, 0, 0, 4), (x, n) -> x.read(9, n, 99, 0, 0, 0));
        add("read", "kind", 0, 7, (x, n) -> x.read(2, 1, 0, 0, 0, n), (x, n) -> x.read(9, 1, 99, 0, 0, n));
        add("write", "box", 0, 9, (x, n) -> x.write(n, 1, 0, 0, 0, 4, 5), (x, n) -> x.write(n, 1, 99, 0, 0, 0, 5));
        add("write", "s", 1, 3, (x, n) -> x.write(2, n, 0, 0, 0, 4, 5), (x, n) -> x.write(9, n, 99, 0, 0, 0, 5));
        add("write", "kind", 0, 7, (x, n) -> x.write(2, 1, 0, 0, 0, n, 5), (x, n) -> x.write(9, 1, 99, 0, 0, n, 5));
        add("fill", "box", 0, 9, (x, n) -> x.fill(n, 0, 0, 0, 4, 5), (x, n) -> x.fill(n, 1, 99, 0, 0, 5));
        add("fill", "s", 0, 2, (x, n) -> x.fill(2, n, 0, 0, 4, 5), (x, n) -> x.fill(9, n, 99, 0, 0, 5));
        add("fill", "kind", 0, 7, (x, n) -> x.fill(2, 0, 0, 0, n, 5), (x, n) -> x.fill(9, 0, 99, 0, n, 5));
    }

    private static void shortPaths() {
        add("turn", "box", 0, 9, (x, n) -> x.turn(n, 0, 0, 0, 0, 1), (x, n) -> x.turn(n, 1, 99, 0, 0, 1));
        add("turn", "s", 0, 2, (x, n) -> x.turn(0, n, 0, 0, 0, 1), (x, n) -> x.turn(9, n, 99, 0, 99, 99));
        add("total", "box", 0, 9, (x, n) -> x.total(n, 0, 0, 0), (x, n) -> x.total(n, 1, 99, 0));
        add("total", "s", 0, 2, (x, n) -> x.total(0, n, 0, 0), (x, n) -> x.total(9, n, 99, 0));
        add("count", "box", 0, 9, (x, n) -> x.count(n, 0, 0, 0), (x, n) -> x.count(n, 1, 99, 0));
        add("count", "s", 0, 2, (x, n) -> x.count(0, n, 0, 0), (x, n) -> x.count(9, n, 99, 0));
    }

    /** Of one method: what names nothing is BAD and changes nothing, what names something is not BAD. */
    static void of(Sentences s, String method) {
        for (Argument each : ALL) {
            if (each.method().equals(method)) {
                bothSides(s, each);
            }
        }
    }

    /** Of all methods: an argument of one name ("box", "s" ..), or of every name if it is "". */
    static void named(Sentences s, String name) {
        for (Argument each : ALL) {
            if (name.isEmpty() || each.name().equals(name)) {
                bothSides(s, each);
            }
        }
    }

    /** Of all methods: also when the other arguments would meet a CAUSE. */
    static void aheadOfCauses(Sentences s) {
        for (Argument each : ALL) {
            for (int n : outside(each)) {
                String text = each.method() + "() with " + each.name() + " " + n + " and others that are wrong";
                Hall.refuses(s, text, DrillCores.BAD, x -> each.awry().on(x, n));
            }
        }
    }

    private static void bothSides(Sentences s, Argument each) {
        String text = each.method() + "() with " + each.name() + " ";
        for (int n = each.least(); n <= each.most(); n++) {
            s.holds(text + n + " is not BAD", each.good().on(Hall.build(), n) != DrillCores.BAD);
        }
        for (int n : outside(each)) {
            Hall.refuses(s, text + n, DrillCores.BAD, x -> each.good().on(x, n));
        }
    }

    private static int[] outside(Argument each) {
        return new int[] {each.least() - 1, each.most() + 1, Integer.MIN_VALUE, Integer.MAX_VALUE};
    }
}
