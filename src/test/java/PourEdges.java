/** Promises 14 and 15: pour, moved. */
final class PourEdges {
    private final Sentences s;

    PourEdges(Sentences s) {
        this.s = s;
    }

    void all() {
        comes();
        rowsCome();
        badAndNothing();
        places();
        misfits();
        nothingIntoNumbers();
        thoseAhead();
        moved();
    }

    /** An object with one ROW of so many ints 1, 2, 3 .. in box 0, and another of so many ints 50 in box 1. */
    private static DrillCores ints(int n, int m) {
        DrillCores x = new DrillCores();
        x.make(0, 4, 1, n);
        for (int place = 0; place < n; place++) {
            x.write(0, 1, place, 0, 0, 4, place + 1);
        }
        x.make(1, 4, 1, m);
        x.fill(1, 0, 0, 0, 4, 50);
        return x;
    }

    private void numbers(DrillCores x, int box, String text, long... want) {
        s.is(text + ", places", want.length, x.length(box, 0, 0, 0, 0));
        for (int place = 0; place < want.length; place++) {
            x.look(box, 1, place, 0, 0);
            s.is(text + ", place " + place, want[place], x.seen());
        }
    }

    /** Of a ROW with ROWS: the answers of look() at its PLACES. */
    private void rows(DrillCores x, int box, String text, int... want) {
        s.is(text + ", places", want.length, x.length(box, 0, 0, 0, 0));
        for (int place = 0; place < want.length; place++) {
            s.is(text + ", place " + place, want[place], x.look(box, 1, place, 0, 0));
        }
    }

    private void comes() {
        s.of("Promise 14", "What the ROW of a BOX has, from PLACE 0 on, comes into the same PLACES of another BOX's ROW,"
                + " one by one: how many.");
        DrillCores x = ints(2, 2);
        s.is("as many", 2, x.pour(0, 1));
        numbers(x, 1, "as many", 1, 2);
        numbers(x, 0, "where they were", 1, 2);
        x = ints(2, 4);
        s.is("fewer", 2, x.pour(0, 1));
        numbers(x, 1, "fewer", 1, 2, 50, 50);
        x = ints(1, 1);
        s.is("one", 1, x.pour(0, 1));
        numbers(x, 1, "one", 1);
        x = ints(8, 8);
        s.is("eight", 8, x.pour(0, 1));
        numbers(x, 1, "eight", 1, 2, 3, 4, 5, 6, 7, 8);
        x = ints(0, 2);
        s.is("none", 0, x.pour(0, 1));
        numbers(x, 1, "none", 50, 50);
        s.is("none into none", 0, ints(0, 0).pour(0, 1));
        x = ints(3, 3);
        s.is("into itself", 3, x.pour(0, 0));
        numbers(x, 0, "into itself", 1, 2, 3);
        x.take(2, 0);
        s.is("into itself in another box", 3, x.pour(0, 2));
        numbers(x, 2, "into itself in another box", 1, 2, 3);
    }

    private void rowsCome() {
        Hall.alike(s, "rows, NOTHING among them, are the same rows", x -> poured(x), x -> hungByHand(x), 0);
        DrillCores x = new DrillCores();
        x.make(0, 0, 3, 2);
        x.make(1, 7, 2, 2);
        x.make(2, 7, 1, 2);
        x.hang(1, 1, 0, 0, 0, 2);
        s.is("NOTHING into rows of another kind and depth", 2, x.pour(0, 1));
        rows(x, 1, "NOTHING into rows of another kind and depth", 40, 40);
        x.make(0, 0, 3, 0);
        x.make(2, 4, 1, 2);
        s.is("no rows into rows of another kind", 0, x.pour(0, 1));
        s.is("no rows into numbers", 0, x.pour(0, 2));
        x.make(0, 4, 1, 0);
        s.is("no numbers into rows", 0, x.pour(0, 1));
        x.make(2, 0, 1, 2);
        s.is("no numbers into numbers of another kind", 0, x.pour(0, 2));
        s.is("none of them: misfits", 0, x.about(4));
    }

    private static long poured(DrillCores x) {
        x.make(8, 4, 2, 4);
        x.hang(8, 1, 1, 0, 0, 2);
        x.hang(8, 1, 3, 0, 0, 2);
        return x.pour(1, 8);
    }

    private static long hungByHand(DrillCores x) {
        x.make(8, 4, 2, 4);
        int[] from = {2, 9, 3, 2};
        for (int place = 0; place < 4; place++) {
            x.hang(8, 1, place, 0, 0, from[place]);
        }
        return x.moved();
    }

    /** pour() and the CAUSE; MOVED is told by it, so the rest is compared behind another pour() of 3. */
    private void meets(String text, int cause, int box, int to) {
        DrillCores x = Hall.build();
        s.is(text, cause, x.pour(box, to));
        s.is(text + ", moved()", 0, x.moved());
        Hall.alike(s, text, h -> pourThenThree(h, box, to), h -> h.pour(2, 2), -10 - cause);
    }

    private static long pourThenThree(DrillCores x, int box, int to) {
        x.pour(box, to);
        return x.pour(2, 2);
    }

    private void badAndNothing() {
        s.of("Promise 14", "BAD.");
        BadNumbers.of(s, "pour");
        s.of("Promise 14", "NOTHING: either holds it (the first one first).");
        meets("the first one", Cause.NOTHING, 9, 2);
        meets("the other one", Cause.NOTHING, 2, 9);
        meets("both", Cause.NOTHING, 9, 8);
        meets("itself", Cause.NOTHING, 9, 9);
        meets("no places into it", Cause.NOTHING, 6, 9);
        meets("it into no places", Cause.NOTHING, 9, 6);
        meets("rows into it", Cause.NOTHING, 0, 9);
    }

    private void places() {
        s.of("Promise 14", "With the first PLACE that the other one has not: PLACE;");
        for (int m = 0; m < 8; m++) {
            DrillCores x = ints(m + 1, m);
            s.is("one more than " + m, Cause.PLACE, x.pour(0, 1));
            s.is("one more than " + m + ", once", 1, x.about(3));
            x = ints(8, m);
            s.is("eight into " + m, Cause.PLACE, x.pour(0, 1));
            s.is("eight into " + m + ", once", 1, x.about(3));
            s.is("as many as " + m, m, ints(m, m).pour(0, 1));
        }
        DrillCores x = new DrillCores();
        x.make(0, 4, 2, 3);
        x.make(1, 4, 2, 2);
        s.is("NOTHING into rows", Cause.PLACE, x.pour(0, 1));
        x.make(2, 4, 1, 1);
        x.hang(0, 1, 2, 0, 0, 2);
        s.is("a row into rows", Cause.PLACE, x.pour(0, 1));
        x.make(3, 4, 1, 0);
        x.hang(0, 1, 0, 0, 0, 2);
        s.is("a row into numbers that have no place", Cause.PLACE, x.pour(0, 3));
        x.make(4, 1, 1, 0);
        s.is("a number into numbers of another kind that have no place", Cause.PLACE, x.pour(2, 4));
        x.make(5, 4, 3, 0);
        s.is("a number into rows that have no place", Cause.PLACE, x.pour(2, 5));
        s.is("a row into rows of another depth that have no place", Cause.PLACE, x.pour(0, 5));
        s.is("met", 6, x.about(3));
        s.is("no misfit", 0, x.about(4));
    }

    private void misfits() {
        s.of("Promise 14", "that does not take it (a number whose KIND does not go into the other's, a ROW or NOTHING into numbers,"
                + " a number into ROWS, a ROW of another KIND or DEPTH): MISFIT");
        meets("longer numbers", Cause.MISFIT, 4, 2);
        meets("ints into bytes", Cause.MISFIT, 2, 7);
        meets("truths", Cause.MISFIT, 5, 2);
        meets("into truths", Cause.MISFIT, 2, 5);
        meets("a row into numbers", Cause.MISFIT, 1, 2);
        meets("a row of rows into numbers", Cause.MISFIT, 0, 2);
        meets("numbers into rows", Cause.MISFIT, 2, 1);
        meets("numbers into rows of rows", Cause.MISFIT, 2, 0);
        meets("rows of another depth", Cause.MISFIT, 0, 1);
        meets("rows of another depth", Cause.MISFIT, 1, 0);
        DrillCores x = Hall.build();
        x.make(9, 4, 2, 3);
        s.is("NOTHING into numbers", Cause.MISFIT, x.pour(9, 2));
        x.make(8, 5, 2, 3);
        s.is("rows of another kind", Cause.MISFIT, x.pour(1, 8));
        rows(x, 8, "rows of another kind", 40, 40, 40);
        s.is("rows of its own kind", 3, x.pour(1, 9));
        rows(x, 9, "rows of its own kind", 14, 40, 14);
    }

    private void nothingIntoNumbers() {
        s.of("Promise 14", "(of NOTHING into numbers ahead of PLACE):");
        DrillCores x = new DrillCores();
        x.make(0, 4, 2, 2);
        x.make(1, 4, 1, 0);
        s.is("NOTHING into numbers that have no place", Cause.MISFIT, x.pour(0, 1));
        x.make(2, 4, 1, 1);
        x.hang(0, 1, 0, 0, 0, 2);
        s.is("a row into numbers that have no place", Cause.PLACE, x.pour(0, 1));
        x.make(3, 4, 2, 0);
        x.make(4, 4, 2, 1);
        s.is("NOTHING into rows that have no place", Cause.PLACE, x.pour(4, 3));
        s.is("met 4", 1, x.about(4));
        s.is("met 3", 2, x.about(3));
    }

    private void thoseAhead() {
        s.of("Promise 14", "those ahead came, and MOVED tells how many.");
        for (int m = 0; m < 8; m++) {
            DrillCores x = ints(8, m);
            x.pour(0, 1);
            s.is("moved, into " + m, m, x.moved());
            long[] want = new long[m];
            for (int place = 0; place < m; place++) {
                want[place] = place + 1;
            }
            numbers(x, 1, "into " + m, want);
            numbers(x, 0, "where they were", 1, 2, 3, 4, 5, 6, 7, 8);
        }
        Hall.alike(s, "numbers", x -> x.pour(2, 3), x -> twoByHand(x), 3);
        DrillCores x = new DrillCores();
        x.make(0, 4, 3, 4);
        x.make(1, 4, 2, 4);
        x.make(2, 4, 2, 1);
        x.make(3, 4, 1, 1);
        x.hang(0, 1, 2, 0, 0, 2);
        for (int place = 0; place < 4; place++) {
            x.hang(1, 1, place, 0, 0, 3);
        }
        s.is("two of NOTHING, then a row that does not fit", Cause.MISFIT, x.pour(0, 1));
        s.is("moved", 2, x.moved());
        rows(x, 1, "two came", 40, 40, 14, 14);
        s.is("met once", 1, x.about(4));
    }

    private static long twoByHand(DrillCores x) {
        Hall.put(x, 3, 4, 7, -8);
        return x.pour(5, 5);
    }

    private void moved() {
        s.of("Promise 15", "Of the latest pour() that was not BAD: how many came.");
        for (int n = 0; n <= 8; n++) {
            DrillCores x = ints(n, 8);
            x.pour(0, 1);
            s.is("of " + n, n, x.moved());
            s.is("of " + n + ", asked again", n, x.moved());
        }
        DrillCores x = ints(2, 3);
        x.pour(0, 1);
        for (int bad : new int[] {-1, 10}) {
            x.pour(bad, 1);
            x.pour(0, bad);
            s.is("behind BAD", 2, x.moved());
        }
        x.pour(1, 0);
        s.is("behind one that met PLACE", 2, x.moved());
        x.pour(1, 1);
        s.is("the latest one", 3, x.moved());
        x.pour(0, 9);
        s.is("behind one that met NOTHING", 0, x.moved());
        x.pour(1, 1);
        x.pour(9, 0);
        s.is("behind one that met NOTHING", 0, x.moved());
        x.pour(1, 1);
        x.make(2, 1, 1, 3);
        x.pour(0, 2);
        s.is("behind one that met MISFIT", 0, x.moved());
        x.pour(0, 0);
        x.empty(0);
        x.fill(1, 0, 0, 0, 4, 5);
        x.turn(1, 0, 0, 0, 0, 1);
        s.is("behind other calls", 2, x.moved());
        Hall.unchanged(s, "moved", h -> h.moved());
        s.of("Promise 15", "0 ahead of one.");
        x = new DrillCores();
        s.is("a new object", 0, x.moved());
        x.pour(10, 0);
        s.is("behind BAD alone", 0, x.moved());
        x.make(0, 4, 1, 3);
        x.fill(0, 0, 0, 0, 4, 5);
        s.is("behind other calls", 0, x.moved());
    }
}
