/** Promises 1 to 5, what is asked for every day: a new object, find, rise, good, chart. */
public final class LodeTest {
    private static final Checks c = new Checks();

    public static void main(String[] args) {
        aNewObject();
        findTellsHowManyChanged();
        findNarrowsByNeighbours();
        riseNarrows();
        goodTells();
        chartFindsAllAtOnce();
        c.close();
    }

    private static void aNewObject() {
        TributePitches x = new TributePitches();
        for (int y = 0; y < 6; y++) {
            for (int i = 0; i < 8; i++) {
                c.due("new: low", 0, x.good(i, y, 0));
                c.due("new: high", 1000, x.good(i, y, 1));
            }
        }
        for (int what = 0; what < 4; what++) c.due("new: told " + what, 0, x.told(what));
        c.due("new: D", 1000, x.told(4));
        for (int what = 5; what < 8; what++) c.due("new: told " + what, TributePitches.NONE, x.told(what));
        for (int k = 0; k < 4; k++) c.due("new: lose " + k, 0, x.lose(k));
        c.due("new: strike", TributePitches.STATE, x.strike());
        c.due("new: suspects", 0, x.suspects());
        c.due("new: trace", 0, x.trace());
        c.due("new: fault", 0, x.fault());
        c.due("new: about", TributePitches.UNKNOWN, x.about(0, 0));
        c.due("new: debt", TributePitches.LOST, x.debt(0));
        c.due("new: taken", TributePitches.UNKNOWN, x.taken(0, 0));
    }

    private static void findTellsHowManyChanged() {
        TributePitches x = new TributePitches();
        c.due("find all", 0, x.find(0, 0, 0, 1000));
        c.due("find low", 1, x.find(0, 0, 10, 1000));
        c.due("find again", 0, x.find(0, 0, 10, 1000));
        c.due("find wider", 0, x.find(0, 0, 5, 1000));
        c.due("find high", 1, x.find(0, 0, 0, 900));
        c.span(x, 0, 0, 10, 900);
        c.due("find overlapping", 1, x.find(0, 0, 900, 1000));
        c.span(x, 0, 0, 900, 900);
        c.due("find the last square", 1, x.find(7, 5, 1000, 1000));
        c.span(x, 7, 5, 1000, 1000);
        c.due("find 0", 1, x.find(7, 0, 0, 0));
        c.span(x, 7, 0, 0, 0);
    }

    private static void findNarrowsByNeighbours() {
        TributePitches x = new TributePitches();
        x.rise(1);
        c.due("find with D 1", 48, x.find(0, 0, 500, 500));
        c.span(x, 1, 0, 499, 501);
        c.span(x, 0, 1, 499, 501);
        c.span(x, 7, 5, 488, 512);
        c.due("find at the far corner", 48 - 1, x.find(7, 5, 512, 512));
        c.span(x, 0, 0, 500, 500);
        c.span(x, 7, 0, 507, 507);
        c.span(x, 0, 5, 505, 505);

        TributePitches w = new TributePitches();
        w.rise(0);
        c.due("find with D 0", 48, w.find(3, 3, 200, 300));
        c.span(w, 0, 0, 200, 300);
        c.span(w, 7, 5, 200, 300);
        c.due("find only a high with D 0", 48, w.find(7, 0, 0, 250));
        c.span(w, 0, 5, 200, 250);
    }

    private static void riseNarrows() {
        TributePitches x = new TributePitches();
        c.due("rise to the same", 0, x.rise(1000));
        c.due("rise with nothing found", 0, x.rise(999));
        c.due("told D", 999, x.told(4));
        x.find(0, 0, 1000, 1000);
        c.span(x, 1, 0, 1, 1000);
        c.due("rise", 47, x.rise(50));
        c.span(x, 1, 0, 950, 1000);
        c.span(x, 7, 5, 400, 1000);
        c.due("rise again", 0, x.rise(50));
        c.due("rise to 0", 47, x.rise(0));
        c.span(x, 7, 5, 1000, 1000);
        c.due("told D 0", 0, x.told(4));
        c.due("rise to 0 again", 0, x.rise(0));
    }

    private static void goodTells() {
        TributePitches x = new TributePitches();
        x.find(7, 5, 3, 4);
        c.due("good low", 3, x.good(7, 5, 0));
        c.due("good high", 4, x.good(7, 5, 1));
    }

    private static void chartFindsAllAtOnce() {
        TributePitches x = new TributePitches();
        Mines.row(x, 0, 2, 7, 200, 300, -1, 0, 1000);
        c.due("chart", 4, x.chart(0, 2, 1, 5, 6));
        c.span(x, 5, 0, 0, 1000);
        c.span(x, 6, 0, 200, 200);
        c.span(x, 7, 0, 300, 300);
        c.span(x, 0, 1, 0, 1000);
        c.span(x, 1, 1, 0, 0);
        c.span(x, 2, 1, 1000, 1000);
        c.span(x, 3, 1, 0, 1000);
        c.due("chart again", 0, x.chart(0, 2, 1, 5, 6));

        // The second cell alone breaks the law; the first one must then not be FOUND either.
        TributePitches z = new TributePitches();
        z.rise(10);
        Mines.row(z, 1, 1, 500, 511);
        c.due("chart beyond the law", TributePitches.STATE, z.chart(1, 1, 0, 2, 0));
        c.span(z, 0, 0, 0, 1000);
        c.due("chart beyond the law is no fault", 0, z.fault());
        z.put(1, 1, 510);
        c.due("chart within the law", 48, z.chart(1, 1, 0, 2, 0));
        c.span(z, 0, 1, 490, 510);
        c.span(z, 1, 1, 500, 520);
        c.due("chart of what is not so", TributePitches.STATE, z.chart(1, 1, 1, 1, 0));
        c.holds("chart of the last square", z.chart(1, 1, 1, 1, 47) > 0);
        c.span(z, 7, 5, 510, 510);

        TributePitches w = new TributePitches();
        w.sheet(3, 2, 48);
        for (int i = 0; i < 48; i++) w.put(3, i, 20 * i);
        c.due("chart of all", 48, w.chart(3, 2, 0, 48, 0));
        c.span(w, 7, 5, 940, 940);
        c.span(w, 3, 2, 380, 380);
    }
}
