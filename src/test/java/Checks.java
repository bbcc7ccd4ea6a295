/** Counts the answers that are as due, and tells each one that is not. */
final class Checks {
    private int right, wrong;

    void due(String call, long want, long got) {
        if (got == want) {
            right++;
            return;
        }
        wrong++;
        System.out.println(call + " answered " + got + ", due is " + want);
    }

    void holds(String what, boolean itDoes) {
        due(what, 1, itDoes ? 1 : 0);
    }

    /** The answer of a call that came to a fault, and fault() right after it. */
    void fault(TributePitches x, String call, int fault, int answer) {
        due(call, -10 - fault, answer);
        due(call + ": fault()", fault, x.fault());
    }

    /** A SHEET with a row of these cells. */
    static void row(TributePitches x, int k, int lane, int... cells) {
        x.sheet(k, lane, cells.length);
        for (int i = 0; i < cells.length; i++) x.put(k, i, cells[i]);
    }

    /** To be called last: a wrong answer ends the program with exit code 1. */
    void close() {
        System.out.println(right + " answers are as due, " + wrong + " are not");
        if (wrong != 0 || right == 0) System.exit(1);
    }
}
