/** Promises 1 to 5: a new object, find, rise, good, chart. */
public final class LodeTest {
    private static final int MIN = Integer.MIN_VALUE, MAX = Integer.MAX_VALUE;
    private static final Checks c = new Checks();

    public static void main(String[] args) {
        aNewObject();
        findTellsHowManyChanged();
        findNarrowsByNeighbours();
        findRefuses();
        findThatComesToNothingChangesNothing();
        riseNarrows();
        riseRefuses();
        goodTells();
        chartFindsAllAtOnce();
        chartRefuses();
        chartFaults();
        chartOfNoCells();
        chartTellsInOrder();
        c.close();
    }

    private static void aNewObject() {
        TributePitches x = new TributePitches();
        for (int y = 0; y < 6; y++) {
            for (int i = 0; i < 8; i++) {
                c.due("new: low", 0, x.good(i, y, 0));
                c.due("new: high", 1000, x.good(i, y, 1));
            }
        }
        for (int what = 0; what < 4; what++) c.due("new: told " + what, 0, x.told(what));
        c.due("new: D", 1000, x.told(4));
        for (int what = 5; what < 8; what++) c.due("new: told " + what, TributePitches.NONE, x.told(what));
        for (int k = 0; k < 4; k++) c.due("new: lose " + k, 0, x.lose(k));
        c.due("new: strike", TributePitches.STATE, x.strike());
        c.due("new: suspects", 0, x.suspects());
        c.due("new: trace", 0, x.trace());
        c.due("new: fault", 0, x.fault());
        c.due("new: about", TributePitches.UNKNOWN, x.about(0, 0));
        c.due("new: debt", TributePitches.LOST, x.debt(0));
        c.due("new: taken", TributePitches.UNKNOWN, x.taken(0, 0));
    }

    private static void findTellsHowManyChanged() {
        TributePitches x = new TributePitches();
        c.due("find all", 0, x.find(0, 0, 0, 1000));
        c.due("find low", 1, x.find(0, 0, 10, 1000));
        c.due("find again", 0, x.find(0, 0, 10, 1000));
        c.due("find wider", 0, x.find(0, 0, 5, 1000));
        c.due("find high", 1, x.find(0, 0, 0, 900));
        span(x, 0, 0, 10, 900);
        c.due("find overlapping", 1, x.find(0, 0, 900, 1000));
        span(x, 0, 0, 900, 900);
        c.due("find the last square", 1, x.find(7, 5, 1000, 1000));
        span(x, 7, 5, 1000, 1000);
        c.due("find 0", 1, x.find(7, 0, 0, 0));
        span(x, 7, 0, 0, 0);
    }

    private static void findNarrowsByNeighbours() {
        TributePitches x = new TributePitches();
        x.rise(1);
        c.due("find with D 1", 48, x.find(0, 0, 500, 500));
        span(x, 1, 0, 499, 501);
        span(x, 0, 1, 499, 501);
        span(x, 7, 5, 488, 512);
        c.due("find at the far corner", 48 - 1, x.find(7, 5, 512, 512));
        span(x, 0, 0, 500, 500);
        span(x, 7, 0, 507, 507);
        span(x, 0, 5, 505, 505);

        // Square 7 and square 8 follow each other but share no side.
        TributePitches z = new TributePitches();
        z.rise(100);
        z.find(7, 0, 1000, 1000);
        span(z, 0, 1, 200, 1000);
        span(z, 0, 0, 300, 1000);

        TributePitches w = new TributePitches();
        w.rise(0);
        c.due("find with D 0", 48, w.find(3, 3, 200, 300));
        span(w, 0, 0, 200, 300);
        span(w, 7, 5, 200, 300);
        c.due("find only a high with D 0", 48, w.find(7, 0, 0, 250));
        span(w, 0, 5, 200, 250);
    }

    private static void findRefuses() {
        TributePitches x = new TributePitches();
        int[][] nowhere = {{-1, 0}, {8, 0}, {0, -1}, {0, 6}, {MIN, 0}, {MAX, 0}, {0, MIN}, {0, MAX}, {6, 7}};
        for (int[] xy : nowhere) {
            c.due("find nowhere", TributePitches.UNKNOWN, x.find(xy[0], xy[1], 0, 0));
            c.due("find nowhere, outside", TributePitches.UNKNOWN, x.find(xy[0], xy[1], -1, 0));
        }
        int[][] outside = {{-1, 5}, {0, 1001}, {1001, 1001}, {-1, -1}, {5, 4}, {MIN, 0}, {0, MAX}, {1000, 0}};
        for (int[] span : outside) {
            c.due("find outside", TributePitches.OUTSIDE, x.find(0, 0, span[0], span[1]));
        }
        span(x, 0, 0, 0, 1000);
        x.find(0, 0, 0, 10);
        c.due("find outside ahead of state", TributePitches.OUTSIDE, x.find(0, 0, 11, 1001));
        c.due("find state", TributePitches.STATE, x.find(0, 0, 11, 12));
        span(x, 0, 0, 0, 10);
    }

    private static void findThatComesToNothingChangesNothing() {
        TributePitches x = new TributePitches();
        x.rise(10);
        x.find(0, 0, 0, 0);
        // Its own SPAN would do (0 .. 120), but only just: 121 leaves a way to (0, 0) with nothing.
        c.due("find beyond the law", TributePitches.STATE, x.find(7, 5, 121, 1000));
        span(x, 7, 5, 0, 120);
        c.due("find within the law", 47, x.find(7, 5, 120, 120));
        span(x, 6, 5, 110, 110);
        c.due("find beside it", TributePitches.STATE, x.find(6, 5, 111, 111));
        span(x, 6, 5, 110, 110);

        // Each SPAN alone would do; a third SQUARE between them would have nothing.
        TributePitches z = new TributePitches();
        z.find(0, 0, 0, 100);
        z.find(2, 0, 300, 400);
        c.due("rise that leaves one between with nothing", TributePitches.STATE, z.rise(99));
        c.due("D is as it was", 1000, z.told(4));
        span(z, 0, 0, 0, 100);
        span(z, 1, 0, 0, 1000);
        c.due("rise that just leaves something", 48 - count(z, 100), z.rise(100));
        span(z, 0, 0, 100, 100);
        span(z, 1, 0, 200, 200);
        span(z, 2, 0, 300, 300);
    }

    /** How many SPANS a law of d would leave as they are, of (0, 0) at 100 and (2, 0) at 300. */
    private static int count(TributePitches x, int d) {
        int same = 0;
        for (int y = 0; y < 6; y++) {
            for (int i = 0; i < 8; i++) {
                int far = i + y, near = Math.abs(i - 2) + y;
                int low = Math.max(Math.max(x.good(i, y, 0), 100 - d * far), 300 - d * near);
                int high = Math.min(Math.min(x.good(i, y, 1), 100 + d * far), 300 + d * near);
                if (low == x.good(i, y, 0) && high == x.good(i, y, 1)) same++;
            }
        }
        return same;
    }

    private static void riseNarrows() {
        TributePitches x = new TributePitches();
        c.due("rise to the same", 0, x.rise(1000));
        c.due("rise with nothing found", 0, x.rise(999));
        c.due("told D", 999, x.told(4));
        x.find(0, 0, 1000, 1000);
        span(x, 1, 0, 1, 1000);
        c.due("rise", 47, x.rise(50));
        span(x, 1, 0, 950, 1000);
        span(x, 7, 5, 400, 1000);
        c.due("rise again", 0, x.rise(50));
        c.due("rise to 0", 47, x.rise(0));
        span(x, 7, 5, 1000, 1000);
        c.due("told D 0", 0, x.told(4));
        c.due("rise to 0 again", 0, x.rise(0));
    }

    private static void riseRefuses() {
        TributePitches x = new TributePitches();
        for (int d : new int[] {-1, 1001, MIN, MAX}) c.due("rise outside", TributePitches.OUTSIDE, x.rise(d));
        x.rise(40);
        c.due("rise above D", TributePitches.STATE, x.rise(41));
        c.due("rise above D", TributePitches.STATE, x.rise(1000));
        c.due("rise outside ahead of state", TributePitches.OUTSIDE, x.rise(1001));
        x.find(0, 0, 100, 100);
        x.find(1, 0, 120, 140);
        c.due("rise that leaves nothing", TributePitches.STATE, x.rise(19));
        c.due("D stays", 40, x.told(4));
        span(x, 1, 0, 120, 140);
        span(x, 0, 0, 100, 100);
        c.due("D still is 40: above it", TributePitches.STATE, x.rise(41));
        c.holds("D still is 40: below it", x.rise(30) > 0);
        span(x, 1, 0, 120, 130);
    }

    private static void goodTells() {
        TributePitches x = new TributePitches();
        x.find(7, 5, 3, 4);
        c.due("good low", 3, x.good(7, 5, 0));
        c.due("good high", 4, x.good(7, 5, 1));
        int[][] nowhere = {{-1, 0}, {8, 0}, {0, -1}, {0, 6}, {MIN, MIN}, {MAX, MAX}};
        for (int[] xy : nowhere) {
            c.due("good nowhere", TributePitches.UNKNOWN, x.good(xy[0], xy[1], 0));
            c.due("good nowhere, outside", TributePitches.UNKNOWN, x.good(xy[0], xy[1], 2));
        }
        for (int which : new int[] {-1, 2, MIN, MAX}) {
            c.due("good outside", TributePitches.OUTSIDE, x.good(0, 0, which));
        }
    }

    private static void chartFindsAllAtOnce() {
        TributePitches x = new TributePitches();
        Mines.row(x, 0, 2, 7, 200, 300, -1, 0, 1000);
        c.due("chart", 4, x.chart(0, 2, 1, 5, 6));
        span(x, 5, 0, 0, 1000);
        span(x, 6, 0, 200, 200);
        span(x, 7, 0, 300, 300);
        span(x, 0, 1, 0, 1000);
        span(x, 1, 1, 0, 0);
        span(x, 2, 1, 1000, 1000);
        span(x, 3, 1, 0, 1000);
        c.due("chart again", 0, x.chart(0, 2, 1, 5, 6));

        // The second cell alone breaks the law; the first one must then not be FOUND either.
        TributePitches z = new TributePitches();
        z.rise(10);
        Mines.row(z, 1, 1, 500, 511);
        c.due("chart beyond the law", TributePitches.STATE, z.chart(1, 1, 0, 2, 0));
        span(z, 0, 0, 0, 1000);
        c.due("chart beyond the law is no fault", 0, z.fault());
        z.put(1, 1, 510);
        c.due("chart within the law", 48, z.chart(1, 1, 0, 2, 0));
        span(z, 0, 1, 490, 510);
        span(z, 1, 1, 500, 520);
        c.due("chart of what is not so", TributePitches.STATE, z.chart(1, 1, 1, 1, 0));
        c.due("chart of the last square", 1, z.chart(1, 1, 1, 1, 47) > 0 ? 1 : 0);
        span(z, 7, 5, 510, 510);

        TributePitches w = new TributePitches();
        w.sheet(3, 2, 48);
        for (int i = 0; i < 48; i++) w.put(3, i, 20 * i);
        c.due("chart of all", 48, w.chart(3, 2, 0, 48, 0));
        span(w, 7, 5, 940, 940);
        span(w, 3, 2, 380, 380);
    }

    private static void chartRefuses() {
        TributePitches x = new TributePitches();
        Mines.row(x, 0, 1, 1000, 1001, -1);
        for (int k : new int[] {-1, 4, MIN, MAX}) {
            c.due("chart of no sheet", TributePitches.UNKNOWN, x.chart(k, 1, 0, 1, 0));
        }
        for (int s : new int[] {-1, 48, MIN, MAX}) {
            c.due("chart of no square", TributePitches.UNKNOWN, x.chart(0, 1, 0, 1, s));
            c.due("chart of no square, of no cells", TributePitches.UNKNOWN, x.chart(0, 1, 0, 0, s));
        }
        for (int lane : new int[] {-1, 3, MIN, MAX}) {
            c.due("chart of no lane", TributePitches.OUTSIDE, x.chart(0, lane, 0, 1, 0));
            c.due("chart of no lane, of nothing", TributePitches.OUTSIDE, x.chart(1, lane, 0, 1, 0));
        }
        c.due("chart of a cell above 1000", TributePitches.OUTSIDE, x.chart(0, 1, 0, 2, 0));
        c.due("that is no fault", 0, x.fault());
        span(x, 0, 0, 0, 1000);
        c.due("chart beside it", 1, x.chart(0, 1, 0, 1, 0));
        c.due("chart of a cell below 0", 0, x.chart(0, 1, 2, 1, 0));
        x.put(0, 0, 999);
        c.due("chart of a cell above 1000 ahead of state", TributePitches.OUTSIDE, x.chart(0, 1, 0, 2, 0));
        c.due("chart state", TributePitches.STATE, x.chart(0, 1, 0, 1, 0));
        x.put(0, 2, -30000);
        c.due("chart of a cell far below 0", 0, x.chart(0, 1, 2, 1, 0));
    }

    private static void chartFaults() {
        TributePitches x = new TributePitches();
        Mines.row(x, 0, 0, 1, 2, 3);
        c.fault(x, "chart of another lane", 2, x.chart(0, 1, 0, 1, 0));
        c.fault(x, "chart of another lane", 2, x.chart(0, 2, 0, 1, 0));
        for (int lane = 0; lane < 3; lane++) c.fault(x, "chart of nothing", 1, x.chart(1, lane, 0, 1, 0));
        c.fault(x, "chart of a size below 0", 4, x.chart(0, 0, 0, -1, 0));
        c.fault(x, "chart of a size below 0", 4, x.chart(0, 0, MIN, MIN, 0));
        int[][] cells = {{-1, 1}, {3, 1}, {0, 4}, {1, 3}, {MAX, 1}, {MAX, MAX}, {MIN, 1}, {1, MAX}, {-1, 2}};
        for (int[] in : cells) c.fault(x, "chart of cells that are not", 3, x.chart(0, 0, in[0], in[1], 0));
        c.fault(x, "chart of squares that are not", 3, x.chart(0, 0, 0, 3, 46));
        c.fault(x, "chart of squares that are not", 3, x.chart(0, 0, 0, 2, 47));
        span(x, 6, 5, 0, 1000);
        c.due("chart up to the last cell and square", 3, x.chart(0, 0, 0, 3, 45));
        c.due("no fault then", 0, x.fault());
        span(x, 7, 5, 3, 3);
    }

    private static void chartOfNoCells() {
        TributePitches x = new TributePitches();
        x.sheet(0, 0, 0);
        x.sheet(1, 0, 2);
        c.due("chart of no cells", 0, x.chart(0, 0, 0, 0, 0));
        c.due("chart of no cells at the end", 0, x.chart(1, 0, 2, 0, 47));
        c.due("no cells are none that are not", 0, x.chart(1, 0, -1, 0, 0));
        c.due("no cells are none that are not", 0, x.chart(1, 0, MAX, 0, 0));
        c.fault(x, "chart of no cells of nothing", 1, x.chart(2, 0, 0, 0, 0));
        c.fault(x, "chart of a cell of an empty row", 3, x.chart(0, 0, 0, 1, 0));
    }

    private static void chartTellsInOrder() {
        TributePitches x = new TributePitches();
        Mines.row(x, 0, 2, 5000, 2);
        c.due("unknown ahead of outside", TributePitches.UNKNOWN, x.chart(4, 3, -1, -1, 0));
        c.due("unknown square ahead of outside", TributePitches.UNKNOWN, x.chart(0, 3, -1, -1, 48));
        c.due("outside ahead of cast", TributePitches.OUTSIDE, x.chart(0, 3, -1, -1, 0));
        c.fault(x, "cast ahead of size", 2, x.chart(0, 0, -1, -1, 0));
        c.fault(x, "null ahead of size", 1, x.chart(1, 0, -1, -1, 0));
        c.fault(x, "size ahead of index", 4, x.chart(0, 2, -1, -1, 0));
        c.fault(x, "index of cells ahead of outside", 3, x.chart(0, 2, 0, 3, 0));
        c.fault(x, "index of squares ahead of outside", 3, x.chart(0, 2, 0, 2, 47));
        c.due("outside last", TributePitches.OUTSIDE, x.chart(0, 2, 0, 2, 0));
    }

    private static void span(TributePitches x, int i, int y, int low, int high) {
        c.due("low of " + i + ", " + y, low, x.good(i, y, 0));
        c.due("high of " + i + ", " + y, high, x.good(i, y, 1));
    }
}
