/** Counts the answers that are as due, and tells each one that is not. */
final class Checks {
    private int right, wrong;

    void due(String call, long want, long got) {
        if (got == want) {
            right++;
            return;
        }
        wrong++;
        System.out.println(call + " answered " + got + ", due is " + want);
    }

    void holds(String what, boolean itDoes) {
        due(what, 1, itDoes ? 1 : 0);
    }

    /** To be called last: a wrong answer ends the program with exit code 1. */
    void close() {
        System.out.println(right + " answers are as due, " + wrong + " are not");
        if (wrong != 0 || right == 0) System.exit(1);
    }
}
