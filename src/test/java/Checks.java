/** Counts the answers that are as due, and tells each one that is not. */
final class Checks {
    private int right, wrong;

    void due(String call, long want, long got) {
        if (got == want) {
            right++;
            return;
        }
        wrong++;
        System.out.println(call + " answered " + got + ", due is " + want);
    }

    void holds(String what, boolean itDoes) {
        due(what, 1, itDoes ? 1 : 0);
    }

    /** The answer of a call that came to a fault, and fault() right after it. */
    void fault(TributePitches x, String call, int fault, int answer) {
        due(call, -10 - fault, answer);
        due(call + ": fault()", fault, x.fault());
    }

    /** The same of a call that answers a long; fault 0: it was refused. */
    void lost(TributePitches x, String call, int fault, long answer) {
        due(call, TributePitches.LOST, answer);
        due(call + ": fault()", fault, x.fault());
    }

    /** Low and high of a SQUARE. */
    void span(TributePitches x, int column, int row, int low, int high) {
        due("low of " + column + ", " + row, low, x.good(column, row, 0));
        due("high of " + column + ", " + row, high, x.good(column, row, 1));
    }

    /** All the cells of a SHEET, and that there are no more of them. */
    void cells(TributePitches x, int k, int lane, int... want) {
        for (int i = 0; i < want.length; i++) due("cell " + i + " of " + k, want[i], x.cell(k, i, lane));
        lost(x, "a cell more of " + k, 3, x.cell(k, want.length, lane));
    }

    /** Upper and lower number of a GANG's SKILL. */
    void skill(TributePitches x, int g, long upper, long lower) {
        due("skill of " + g + ", upper", upper, x.skill(g, 0));
        due("skill of " + g + ", lower", lower, x.skill(g, 1));
    }

    boolean areRight() {
        return wrong == 0 && right > 0;
    }

    int seen() {
        return right + wrong;
    }

    /** To be called last: a wrong answer ends the program with exit code 1. */
    void close() {
        System.out.println(right + " answers are as due, " + wrong + " are not");
        if (!areRight()) System.exit(1);
    }
}
