/** What a call answers that meets a CAUSE. */
final class Cause {
    static final int NOTHING = -11;
    static final int NO_ROW = -12;
    static final int PLACE = -13;
    static final int MISFIT = -14;
    static final int SIZE = -15;

    private Cause() {
    }
}
