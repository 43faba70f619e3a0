/** Counts answers that are not the ones that are due; a test ends with end(). */
final class Due {
    private int checked = 0;
    private int wrong = 0;

    void is(String call, long want, long got) {
        checked++;
        if (got != want) {
            wrong++;
            System.out.println(call + " answered " + got + ", due is " + want);
        }
    }

    void holds(String what, boolean isSo) {
        is(what, 1, isSo ? 1 : 0);
    }

    int wrong() {
        return wrong;
    }

    void end() {
        System.out.println(checked + " answers looked at, " + wrong + " not as due");
        if (wrong != 0 || checked == 0) {
            System.exit(1);
        }
    }
}
