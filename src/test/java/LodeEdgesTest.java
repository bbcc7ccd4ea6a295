/** The edges that the document names in part 1 of its terms and in promises 1 to 5. */
public final class LodeEdgesTest {
    private static final int MIN = Edges.MIN, MAX = Edges.MAX;
    private static final int[][] NOWHERE = {{-1, 0}, {8, 0}, {0, -1}, {0, 6}, {-1, -1}, {8, 6}, {6, 7}, {MIN, 0},
        {MAX, 0}, {0, MIN}, {0, MAX}, {-1, 1}, {8, -1}};

    public static void main(String[] args) {
        Edges e = new Edges();
        e.term("SQUARES at x 0 .. 7, y 0 .. 5", LodeEdgesTest::cornersAreThere);
        e.term("numbered 8 y + x", LodeEdgesTest::rowsFollowEachOther);
        e.term("(low .. high, 0 .. 1000 at first)", LodeEdgesTest::spansAtFirst);
        e.term("NEIGHBOURS share a side", LodeEdgesTest::rowsDoNotWrap);
        e.term("NEIGHBOURS share a side", LodeEdgesTest::cornersAreNoNeighbours);
        e.term("goodness of NEIGHBOURS differs by D at most", LodeEdgesTest::neighboursDifferByTheLawAtMost);
        e.term("(0 .. 1000; 1000 at first)", LodeEdgesTest::lawFromEndToEnd);
        e.term("its low less D to its high and D", LodeEdgesTest::narrowingGoesBothWays);
        e.term("again and again till none changes", LodeEdgesTest::narrowingGoesAllTheWay);
        e.term("its SPAN becomes what is common", LodeEdgesTest::whatIsCommonMayBeOneNumber);
        e.term("where a SPAN would have nothing in common", LodeEdgesTest::nothingInCommon);
        e.term("where a SPAN would have nothing in common", LodeEdgesTest::anotherSpanWouldHaveNothing);
        e.term("(of THE LAW that is made stricter, too): STATE, nothing changes", LodeEdgesTest::stricterLaw);

        e.promise(1, "No PITCHES, GANGS, TAKES, SHEETS", LodeEdgesTest::newObjectHasNone);
        e.promise(1, "all SPANS 0 .. 1000", LodeEdgesTest::spansAtFirst);
        e.promise(1, "no AUCTION", LodeEdgesTest::newObjectHasNoAuction);

        e.promise(2, "how many SPANS changed (all told)", LodeEdgesTest::findTellsHowManyChanged);
        e.promise(2, "UNKNOWN", LodeEdgesTest::findOfNoSquare);
        e.promise(2, "OUTSIDE: they are not 0 .. 1000", LodeEdgesTest::findOfOtherNumbers);
        e.promise(2, "low is above high", LodeEdgesTest::findOfLowAboveHigh);
        e.promise(2, "STATE", LodeEdgesTest::findOfWhatIsNotSo);
        e.promise(2, "UNKNOWN; OUTSIDE: they are not 0 .. 1000, low is above high; STATE",
            LodeEdgesTest::findRefusesInOrder);

        e.promise(3, "how many SPANS changed", LodeEdgesTest::riseTellsHowManyChanged);
        e.promise(3, "OUTSIDE", LodeEdgesTest::riseToOtherNumbers);
        e.promise(3, "STATE: d is above D", LodeEdgesTest::riseAboveTheLaw);
        e.promise(3, "a SPAN would have nothing", LodeEdgesTest::stricterLaw);
        e.promise(3, "OUTSIDE; STATE", LodeEdgesTest::riseRefusesInOrder);

        e.promise(4, "UNKNOWN", LodeEdgesTest::goodOfNoSquare);
        e.promise(4, "OUTSIDE", LodeEdgesTest::goodOfAnotherEnd);
        e.promise(4, "UNKNOWN; OUTSIDE", LodeEdgesTest::goodRefusesInOrder);

        e.promise(5, "SQUARES from s on", LodeEdgesTest::chartFromAnySquareOn);
        e.promise(5, "just the cells i .. i + n - 1 of a SHEET", LodeEdgesTest::chartOfJustTheCells);
        e.promise(5, "just the cells i .. i + n - 1 of a SHEET", LodeEdgesTest::chartOfNoCells);
        e.promise(5, "all at once", LodeEdgesTest::chartIsAllOrNothing);
        e.promise(5, "(a cell below 0: not FOUND)", LodeEdgesTest::chartOfCellsBelowNaught);
        e.promise(5, "how many SPANS changed", LodeEdgesTest::chartTellsHowManyChanged);
        e.promise(5, "UNKNOWN: SHEET", LodeEdgesTest::chartOfNoSheet);
        e.promise(5, "s; OUTSIDE", LodeEdgesTest::chartOfNoSquare);
        e.promise(5, "OUTSIDE: lane", LodeEdgesTest::chartOfNoLane);
        e.promise(5, "CAST", LodeEdgesTest::chartOfAnotherLane);
        e.promise(5, "(nothing is no CAST); NULL", LodeEdgesTest::chartOfNothing);
        e.promise(5, "SIZE: n below 0", LodeEdgesTest::chartOfASizeBelowNaught);
        e.promise(5, "INDEX: cells", LodeEdgesTest::chartOfCellsThatAreNot);
        e.promise(5, "SQUARES that are not", LodeEdgesTest::chartOfSquaresThatAreNot);
        e.promise(5, "then OUTSIDE: a cell above 1000", LodeEdgesTest::chartOfACellAboveTheBest);
        e.promise(5, "STATE", LodeEdgesTest::chartOfWhatIsNotSo);
        e.promise(5, "UNKNOWN: SHEET, s; OUTSIDE: lane; CAST (nothing is no CAST); NULL; SIZE: n below 0; INDEX",
            LodeEdgesTest::chartFaultsInOrder);
        e.promise(5, "INDEX: cells, SQUARES that are not; then OUTSIDE: a cell above 1000; STATE",
            LodeEdgesTest::chartRefusesLast);
        e.close(1, 5);
    }

    // ---- part 1

    private static void cornersAreThere(Checks c) {
        TributePitches x = new TributePitches();
        int[][] corners = {{0, 0}, {7, 0}, {0, 5}, {7, 5}};
        for (int[] at : corners) c.due("find at a corner", 1, x.find(at[0], at[1], 1, 999));
        for (int[] at : corners) c.span(x, at[0], at[1], 1, 999);
        for (int[] at : NOWHERE) c.due("good beyond", TributePitches.UNKNOWN, x.good(at[0], at[1], 0));
        c.due("a pitch from corner to corner", 0, x.pitch(0, 0, 7, 5, 1));
    }

    private static void rowsFollowEachOther(Checks c) {
        TributePitches x = new TributePitches();
        x.sheet(0, 2, 48);
        for (int s = 0; s < 48; s++) x.put(0, s, 10 * s);
        c.due("chart of them all", 48, x.chart(0, 2, 0, 48, 0));
        int[] edges = {0, 7, 8, 15, 16, 39, 40, 47};
        for (int s : edges) c.span(x, s % 8, s / 8, 10 * s, 10 * s);
    }

    private static void spansAtFirst(Checks c) {
        TributePitches x = new TributePitches();
        for (int s = 0; s < 48; s++) c.span(x, s % 8, s / 8, 0, 1000);
    }

    private static void rowsDoNotWrap(Checks c) {
        TributePitches x = new TributePitches();
        x.rise(80);
        x.find(7, 0, 1000, 1000);
        c.span(x, 6, 0, 920, 1000);
        c.span(x, 7, 1, 920, 1000);
        c.span(x, 0, 1, 360, 1000);
        c.span(x, 0, 0, 440, 1000);
        c.span(x, 7, 5, 600, 1000);
        TributePitches z = new TributePitches();
        z.rise(80);
        z.find(0, 5, 0, 0);
        c.span(z, 1, 5, 0, 80);
        c.span(z, 0, 4, 0, 80);
        c.span(z, 7, 4, 0, 640);
        c.span(z, 7, 5, 0, 560);
        c.span(z, 0, 0, 0, 400);
    }

    private static void cornersAreNoNeighbours(Checks c) {
        TributePitches x = new TributePitches();
        x.rise(100);
        x.find(3, 3, 500, 500);
        int[][] sides = {{2, 3}, {4, 3}, {3, 2}, {3, 4}}, corners = {{2, 2}, {4, 4}, {2, 4}, {4, 2}};
        for (int[] at : sides) c.span(x, at[0], at[1], 400, 600);
        for (int[] at : corners) c.span(x, at[0], at[1], 300, 700);
    }

    private static void neighboursDifferByTheLawAtMost(Checks c) {
        int[][] sides = {{2, 3}, {4, 3}, {3, 2}, {3, 4}};
        for (int[] at : sides) {
            TributePitches x = new TributePitches();
            x.rise(10);
            x.find(3, 3, 500, 500);
            c.due("more above than D", TributePitches.STATE, x.find(at[0], at[1], 511, 511));
            c.due("more below than D", TributePitches.STATE, x.find(at[0], at[1], 489, 489));
            c.holds("just D above", x.find(at[0], at[1], 510, 510) > 0);
            c.span(x, at[0], at[1], 510, 510);
        }
    }

    private static void lawFromEndToEnd(Checks c) {
        TributePitches x = new TributePitches();
        c.due("D at first", 1000, x.told(4));
        c.due("find one at 0", 1, x.find(0, 0, 0, 0));
        c.due("find its neighbour at 1000", 1, x.find(1, 0, 1000, 1000));
        c.due("rise to the greatest", 0, x.rise(1000));
        c.due("rise by 1", TributePitches.STATE, x.rise(999));
        TributePitches z = new TributePitches();
        c.due("rise to 0", 0, z.rise(0));
        c.due("D then", 0, z.told(4));
        c.due("all are alike", 48, z.find(7, 5, 7, 7));
        c.span(z, 0, 0, 7, 7);
    }

    private static void narrowingGoesBothWays(Checks c) {
        TributePitches x = new TributePitches();
        x.rise(10);
        c.due("a high with nothing below to lose", 48, x.find(0, 0, 0, 100));
        c.span(x, 1, 0, 0, 110);
        c.due("a low, as far as it is above 0", 15, x.find(0, 0, 50, 100));
        c.span(x, 1, 0, 40, 110);
        c.span(x, 5, 0, 0, 150);
        c.span(x, 6, 0, 0, 160);
    }

    private static void narrowingGoesAllTheWay(Checks c) {
        int[][] corners = {{0, 0}, {7, 0}, {0, 5}, {7, 5}};
        for (int[] at : corners) {
            TributePitches x = new TributePitches();
            x.rise(1);
            c.due("find at a corner", 48, x.find(at[0], at[1], 500, 500));
            c.span(x, 7 - at[0], 5 - at[1], 488, 512);
            c.span(x, 7 - at[0], at[1], 493, 507);
            c.span(x, at[0], 5 - at[1], 495, 505);
        }
    }

    private static void whatIsCommonMayBeOneNumber(Checks c) {
        TributePitches x = new TributePitches();
        x.find(2, 2, 300, 400);
        c.due("from its high on", 1, x.find(2, 2, 400, 1000));
        c.span(x, 2, 2, 400, 400);
        x.find(3, 2, 300, 400);
        c.due("up to its low", 1, x.find(3, 2, 0, 300));
        c.span(x, 3, 2, 300, 300);
        x.find(4, 2, 300, 400);
        c.due("wider than it is", 0, x.find(4, 2, 299, 401));
        c.span(x, 4, 2, 300, 400);
    }

    private static void nothingInCommon(Checks c) {
        Seen.unchanged(c, LodeEdgesTest::found, "just above its high", TributePitches.STATE,
            x -> x.find(2, 2, 401, 1000));
        Seen.unchanged(c, LodeEdgesTest::found, "just below its low", TributePitches.STATE,
            x -> x.find(2, 2, 0, 299));
        TributePitches x = found();
        c.holds("at its high", x.find(2, 2, 400, 1000) > 0);
        TributePitches z = found();
        c.holds("at its low", z.find(2, 2, 0, 300) > 0);
    }

    /** (2, 2) is 300 .. 400 and D is 10, so that (7, 5) is 220 .. 480. */
    private static TributePitches found() {
        TributePitches x = new TributePitches();
        x.rise(10);
        x.find(2, 2, 300, 400);
        return x;
    }

    private static void anotherSpanWouldHaveNothing(Checks c) {
        // The two that are FOUND could be so, but not the SQUARE between them.
        Seen.unchanged(c, () -> lawful(500, -1, 521), "two that are too far apart", TributePitches.STATE,
            x -> x.chart(0, 2, 0, 3, 0));
        TributePitches x = lawful(500, -1, 520);
        c.due("two that are just near enough", 48, x.chart(0, 2, 0, 3, 0));
        c.span(x, 1, 0, 510, 510);
        // The same the other way round.
        Seen.unchanged(c, () -> lawful(521, -1, 500), "two that are too far apart", TributePitches.STATE,
            z -> z.chart(0, 2, 0, 3, 0));
    }

    private static void stricterLaw(Checks c) {
        Seen.unchanged(c, LodeEdgesTest::foundTwo, "rise to where one between has nothing", TributePitches.STATE,
            x -> x.rise(99));
        Seen.unchanged(c, LodeEdgesTest::foundTwo, "rise to where all have nothing", TributePitches.STATE,
            x -> x.rise(0));
        TributePitches x = foundTwo();
        c.holds("rise to where it has just something", x.rise(100) > 0);
        c.due("D then", 100, x.told(4));
        c.span(x, 0, 0, 100, 100);
        c.span(x, 1, 0, 200, 200);
        c.span(x, 2, 0, 300, 300);
    }

    /** (0, 0) is 0 .. 100, (2, 0) is 300 .. 400, and THE LAW leaves (1, 0) as it was. */
    private static TributePitches foundTwo() {
        TributePitches x = new TributePitches();
        x.find(0, 0, 0, 100);
        x.find(2, 0, 300, 400);
        return x;
    }

    // ---- promise 1

    private static void newObjectHasNone(Checks c) {
        TributePitches x = new TributePitches();
        for (int what = 0; what < 4; what++) c.due("told " + what, 0, x.told(what));
        c.due("about a pitch", TributePitches.UNKNOWN, x.about(0, 0));
        c.due("debt of a gang", TributePitches.LOST, x.debt(0));
        c.due("taken of a take", TributePitches.UNKNOWN, x.taken(0, 0));
        c.due("suspects", 0, x.suspects());
        for (int k = 0; k < 4; k++) c.fault(x, "put on sheet " + k, 1, x.put(k, 0, 0));
        for (int k = 0; k < 4; k++) c.due("lose sheet " + k, 0, x.lose(k));
    }

    private static void newObjectHasNoAuction(Checks c) {
        TributePitches x = new TributePitches();
        for (int what = 5; what < 8; what++) c.due("told " + what, TributePitches.NONE, x.told(what));
        c.due("strike", TributePitches.STATE, x.strike());
        x.gang(0);
        c.due("bid", TributePitches.STATE, x.bid(0, 1));
    }

    // ---- promise 2

    private static void findTellsHowManyChanged(Checks c) {
        TributePitches x = new TributePitches();
        c.due("the whole of it", 0, x.find(4, 4, 0, 1000));
        c.due("low and high are one span", 1, x.find(4, 4, 500, 600));
        c.due("the same again", 0, x.find(4, 4, 500, 600));
        c.due("low alone", 1, x.find(4, 4, 501, 600));
        c.due("high alone", 1, x.find(4, 4, 501, 599));
        TributePitches z = new TributePitches();
        z.rise(500);
        c.due("neighbours, too", 3, z.find(0, 0, 1, 499));
        c.span(z, 1, 0, 0, 999);
        c.span(z, 2, 0, 0, 1000);
        c.due("but not those that stay", 1, z.find(0, 0, 2, 499));
    }

    private static void findOfNoSquare(Checks c) {
        TributePitches x = new TributePitches();
        for (int[] at : NOWHERE) c.due("find nowhere", TributePitches.UNKNOWN, x.find(at[0], at[1], 0, 0));
        for (int s = 0; s < 48; s++) c.span(x, s % 8, s / 8, 0, 1000);
    }

    private static void findOfOtherNumbers(Checks c) {
        TributePitches x = new TributePitches();
        int[][] outside = {{-1, 5}, {-1, -1}, {MIN, 0}, {0, 1001}, {1001, 1001}, {1000, 1001}, {0, MAX}, {-1, 1001},
            {MIN, MAX}, {MAX, MAX}, {MIN, MIN}};
        for (int[] span : outside) {
            c.due("find " + span[0] + " .. " + span[1], TributePitches.OUTSIDE, x.find(0, 0, span[0], span[1]));
        }
        c.span(x, 0, 0, 0, 1000);
        c.due("find 0 .. 0", 1, x.find(0, 0, 0, 0));
        c.due("find 1000 .. 1000", 1, x.find(1, 0, 1000, 1000));
        c.due("find 0 .. 1000", 0, x.find(2, 0, 0, 1000));
    }

    private static void findOfLowAboveHigh(Checks c) {
        TributePitches x = new TributePitches();
        int[][] above = {{1, 0}, {501, 500}, {1000, 0}, {1000, 999}};
        for (int[] span : above) c.due("find", TributePitches.OUTSIDE, x.find(0, 0, span[0], span[1]));
        c.span(x, 0, 0, 0, 1000);
        c.due("low at high", 1, x.find(0, 0, 500, 500));
    }

    private static void findOfWhatIsNotSo(Checks c) {
        Seen.unchanged(c, LodeEdgesTest::found, "find what the square is not", TributePitches.STATE,
            x -> x.find(2, 2, 500, 600));
        Seen.unchanged(c, LodeEdgesTest::found, "find what its neighbours leave no room for", TributePitches.STATE,
            x -> x.find(7, 5, 481, 1000));
        c.holds("find what they just leave room for", found().find(7, 5, 480, 1000) > 0);
    }

    private static void findRefusesInOrder(Checks c) {
        c.due("no square ahead of other numbers", TributePitches.UNKNOWN, found().find(8, 0, -1, 0));
        c.due("no square ahead of low above high", TributePitches.UNKNOWN, found().find(0, 6, 1, 0));
        c.due("other numbers ahead of what is not so", TributePitches.OUTSIDE, found().find(2, 2, 401, 1001));
        c.due("low above high ahead of what is not so", TributePitches.OUTSIDE, found().find(2, 2, 500, 499));
    }

    // ---- promise 3

    private static void riseTellsHowManyChanged(Checks c) {
        TributePitches x = new TributePitches();
        c.due("rise with nothing found", 0, x.rise(600));
        x.find(0, 0, 1000, 1000);
        c.due("rise to the same", 0, x.rise(600));
        c.due("rise to where only its neighbours are told more", 2, x.rise(500));
        c.span(x, 1, 0, 500, 1000);
        c.span(x, 2, 0, 0, 1000);
        c.due("rise to where theirs are, too", 5, x.rise(499));
        c.span(x, 2, 0, 2, 1000);
        c.due("rise to 0", 47, x.rise(0));
    }

    private static void riseToOtherNumbers(Checks c) {
        for (int d : new int[] {-1, 1001, MIN, MAX}) {
            Seen.unchanged(c, Mines::busy, "rise to " + d, TributePitches.OUTSIDE, x -> x.rise(d));
        }
        c.due("rise to 1000", 0, new TributePitches().rise(1000));
        c.due("rise to 0", 0, new TributePitches().rise(0));
    }

    private static void riseAboveTheLaw(Checks c) {
        Seen.unchanged(c, LodeEdgesTest::found, "rise to 1 above D", TributePitches.STATE, x -> x.rise(11));
        Seen.unchanged(c, LodeEdgesTest::found, "rise to the greatest", TributePitches.STATE, x -> x.rise(1000));
        TributePitches x = found();
        c.due("rise to D", 0, x.rise(10));
        c.holds("rise to 1 below D", x.rise(9) > 0);
        c.due("rise to what D was", TributePitches.STATE, x.rise(10));
    }

    private static void riseRefusesInOrder(Checks c) {
        TributePitches x = found();
        c.due("other numbers ahead of above D", TributePitches.OUTSIDE, x.rise(1001));
        TributePitches z = foundTwo();
        c.due("other numbers ahead of nothing left", TributePitches.OUTSIDE, z.rise(-1));
    }

    // ---- promise 4

    private static void goodOfNoSquare(Checks c) {
        TributePitches x = new TributePitches();
        for (int[] at : NOWHERE) {
            c.due("low of nowhere", TributePitches.UNKNOWN, x.good(at[0], at[1], 0));
            c.due("high of nowhere", TributePitches.UNKNOWN, x.good(at[0], at[1], 1));
        }
    }

    private static void goodOfAnotherEnd(Checks c) {
        TributePitches x = new TributePitches();
        x.find(7, 5, 3, 4);
        for (int which : new int[] {-1, 2, MIN, MAX}) {
            c.due("good " + which, TributePitches.OUTSIDE, x.good(7, 5, which));
        }
        c.due("low", 3, x.good(7, 5, 0));
        c.due("high", 4, x.good(7, 5, 1));
    }

    private static void goodRefusesInOrder(Checks c) {
        c.due("no square ahead of no end", TributePitches.UNKNOWN, new TributePitches().good(8, 0, 2));
        c.due("no square ahead of no end", TributePitches.UNKNOWN, new TributePitches().good(0, -1, -1));
    }

    // ---- promise 5

    /** SHEETS 0 .. 2 of each LANE with 1, 2, 3; SHEET 3 has nothing. */
    private static TributePitches charts() {
        TributePitches x = new TributePitches();
        for (int lane = 0; lane < 3; lane++) Mines.row(x, lane, lane, 1, 2, 3);
        return x;
    }

    private static void chartFromAnySquareOn(Checks c) {
        TributePitches x = charts();
        c.due("from the first", 1, x.chart(0, 0, 0, 1, 0));
        c.span(x, 0, 0, 1, 1);
        c.due("over the end of a row", 3, x.chart(1, 1, 0, 3, 6));
        c.span(x, 6, 0, 1, 1);
        c.span(x, 7, 0, 2, 2);
        c.span(x, 0, 1, 3, 3);
        c.due("at the last", 1, x.chart(2, 2, 2, 1, 47));
        c.span(x, 7, 5, 3, 3);
    }

    private static void chartOfJustTheCells(Checks c) {
        TributePitches x = charts();
        c.due("the one between", 1, x.chart(0, 0, 1, 1, 20));
        c.span(x, 3, 2, 0, 1000);
        c.span(x, 4, 2, 2, 2);
        c.span(x, 5, 2, 0, 1000);
        c.due("the last two", 2, x.chart(0, 0, 1, 2, 32));
        c.span(x, 0, 4, 2, 2);
        c.span(x, 1, 4, 3, 3);
        c.span(x, 2, 4, 0, 1000);
    }

    private static void chartOfNoCells(Checks c) {
        TributePitches x = charts();
        x.sheet(3, 0, 0);
        c.due("none of some", 0, x.chart(0, 0, 0, 0, 0));
        c.due("none after the last cell", 0, x.chart(0, 0, 3, 0, 47));
        c.due("none of none", 0, x.chart(3, 0, 0, 0, 0));
        // Where there are no cells, none of them can be one that is not.
        for (int i : new int[] {-1, 4, 49, MIN, MAX}) c.due("none at " + i, 0, x.chart(0, 0, i, 0, 0));
        c.due("no fault", 0, x.fault());
        for (int s = 0; s < 48; s++) c.span(x, s % 8, s / 8, 0, 1000);
    }

    private static void chartIsAllOrNothing(Checks c) {
        // Each cell alone could be so.
        Seen.unchanged(c, () -> lawful(500, 511), "two that differ too much", TributePitches.STATE,
            x -> x.chart(0, 2, 0, 2, 0));
        c.due("two that differ as they may", 48, lawful(500, 510).chart(0, 2, 0, 2, 0));
        // The last one is above 1000: the first is not FOUND either.
        Seen.unchanged(c, () -> lawful(500, 1001), "one that cannot be", TributePitches.OUTSIDE,
            x -> x.chart(0, 2, 0, 2, 0));
    }

    /** D is 10, and SHEET 0 has ints. */
    private static TributePitches lawful(int... cells) {
        TributePitches x = new TributePitches();
        x.rise(10);
        Mines.row(x, 0, 2, cells);
        return x;
    }

    private static void chartOfCellsBelowNaught(Checks c) {
        TributePitches x = new TributePitches();
        Mines.row(x, 0, 0, -1, 0, -128);
        Mines.row(x, 1, 1, -1, 0, -32768);
        Mines.row(x, 2, 2, -1, 0, MIN);
        for (int lane = 0; lane < 3; lane++) {
            c.due("only the naught is found", 1, x.chart(lane, lane, 0, 3, 8 * lane));
            c.span(x, 0, lane, 0, 1000);
            c.span(x, 1, lane, 0, 0);
            c.span(x, 2, lane, 0, 1000);
            c.due("nothing is found", 0, x.chart(lane, lane, 2, 1, 40));
        }
    }

    private static void chartTellsHowManyChanged(Checks c) {
        TributePitches x = charts();
        c.due("all three", 3, x.chart(0, 0, 0, 3, 0));
        c.due("none, again", 0, x.chart(1, 1, 0, 3, 0));
        Mines.row(x, 3, 2, 3, 9);
        c.due("the one that is new", 1, x.chart(3, 2, 0, 2, 2));
        TributePitches z = lawful(500);
        c.due("neighbours, too", 48, z.chart(0, 2, 0, 1, 47));
    }

    private static void chartOfNoSheet(Checks c) {
        for (int k : new int[] {-1, 4, MIN, MAX}) {
            Seen.unchanged(c, LodeEdgesTest::charts, "chart of sheet " + k, TributePitches.UNKNOWN,
                x -> x.chart(k, 0, 0, 1, 0));
        }
        TributePitches x = charts();
        x.sheet(3, 0, 1);
        c.due("of the first sheet", 1, x.chart(0, 0, 0, 1, 0));
        c.due("of the last sheet", 1, x.chart(3, 0, 0, 1, 1));
    }

    private static void chartOfNoSquare(Checks c) {
        for (int s : new int[] {-1, 48, MIN, MAX}) {
            Seen.unchanged(c, LodeEdgesTest::charts, "chart at " + s, TributePitches.UNKNOWN,
                x -> x.chart(0, 0, 0, 1, s));
            Seen.unchanged(c, LodeEdgesTest::charts, "chart of no cells at " + s, TributePitches.UNKNOWN,
                x -> x.chart(0, 0, 0, 0, s));
        }
        c.due("chart at 0", 1, charts().chart(0, 0, 0, 1, 0));
        c.due("chart at 47", 1, charts().chart(0, 0, 0, 1, 47));
    }

    private static void chartOfNoLane(Checks c) {
        for (int lane : new int[] {-1, 3, MIN, MAX}) {
            Seen.unchanged(c, LodeEdgesTest::charts, "chart by lane " + lane, TributePitches.OUTSIDE,
                x -> x.chart(0, lane, 0, 1, 0));
        }
        for (int lane = 0; lane < 3; lane++) c.due("a lane", 1, charts().chart(lane, lane, 0, 1, 0));
    }

    private static void chartOfAnotherLane(Checks c) {
        for (int k = 0; k < 3; k++) {
            for (int lane = 0; lane < 3; lane++) {
                TributePitches x = charts();
                if (lane != k) c.fault(x, "chart of " + k + " by " + lane, 2, x.chart(k, lane, 0, 3, 0));
                c.span(x, 0, 0, 0, 1000);
            }
        }
    }

    private static void chartOfNothing(Checks c) {
        for (int lane = 0; lane < 3; lane++) {
            TributePitches x = charts();
            c.fault(x, "chart of nothing", 1, x.chart(3, lane, 0, 1, 0));
            c.fault(x, "chart of no cells of nothing", 1, x.chart(3, lane, 0, 0, 0));
            x.lose(lane);
            c.fault(x, "chart of what was lost", 1, x.chart(lane, lane, 0, 1, 0));
            c.span(x, 0, 0, 0, 1000);
        }
    }

    private static void chartOfASizeBelowNaught(Checks c) {
        TributePitches x = charts();
        for (int n : new int[] {-1, -48, MIN}) c.fault(x, "chart of size " + n, 4, x.chart(0, 0, 0, n, 0));
        c.fault(x, "chart of size -1 at the end", 4, x.chart(0, 0, 3, -1, 47));
        c.due("chart of size 0", 0, x.chart(0, 0, 0, 0, 0));
        c.due("no fault then", 0, x.fault());
    }

    private static void chartOfCellsThatAreNot(Checks c) {
        int[][] beyond = {{-1, 1}, {-1, 2}, {-3, 3}, {3, 1}, {0, 4}, {1, 3}, {2, 2}, {48, 1}, {0, 48}, {MIN, 1},
            {MIN, MAX}, {MAX, 1}, {MAX, MAX}, {1, MAX}, {0, MAX}};
        for (int[] cells : beyond) {
            TributePitches x = charts();
            c.fault(x, "chart of cells " + cells[0] + " and on, " + cells[1] + " of them", 3,
                x.chart(0, 0, cells[0], cells[1], 0));
            for (int s = 0; s < 4; s++) c.span(x, s, 0, 0, 1000);
        }
        TributePitches x = charts();
        x.sheet(3, 1, 0);
        c.fault(x, "chart of a row of none", 3, x.chart(3, 1, 0, 1, 0));
        c.due("chart of all the cells", 3, x.chart(0, 0, 0, 3, 0));
    }

    private static void chartOfSquaresThatAreNot(Checks c) {
        TributePitches x = charts();
        c.fault(x, "chart of three at 46", 3, x.chart(0, 0, 0, 3, 46));
        c.fault(x, "chart of three at 47", 3, x.chart(0, 0, 0, 3, 47));
        c.fault(x, "chart of two at 47", 3, x.chart(0, 0, 0, 2, 47));
        c.span(x, 6, 5, 0, 1000);
        c.span(x, 7, 5, 0, 1000);
        c.due("chart of three at 45", 3, x.chart(0, 0, 0, 3, 45));
        c.span(x, 7, 5, 3, 3);
        TributePitches z = new TributePitches();
        z.sheet(0, 0, 48);
        c.fault(z, "chart of 48 at 1", 3, z.chart(0, 0, 0, 48, 1));
        c.due("chart of 48 at 0", 48, z.chart(0, 0, 0, 48, 0));
    }

    private static void chartOfACellAboveTheBest(Checks c) {
        for (int cell : new int[] {1001, 32767}) {
            TributePitches x = new TributePitches();
            Mines.row(x, 0, 1, 7, cell);
            c.due("chart of " + cell, TributePitches.OUTSIDE, x.chart(0, 1, 0, 2, 0));
            c.due("that is no fault", 0, x.fault());
            c.span(x, 0, 0, 0, 1000);
            c.due("chart of the one ahead of it", 1, x.chart(0, 1, 0, 1, 0));
        }
        TributePitches x = new TributePitches();
        Mines.row(x, 2, 2, 1000, MAX);
        c.due("chart of the greatest int", TributePitches.OUTSIDE, x.chart(2, 2, 1, 1, 0));
        c.due("chart of 1000", 1, x.chart(2, 2, 0, 1, 0));
        c.span(x, 0, 0, 1000, 1000);
    }

    private static void chartOfWhatIsNotSo(Checks c) {
        Seen.unchanged(c, LodeEdgesTest::chartedAlready, "chart of what is not so", TributePitches.STATE,
            x -> x.chart(0, 2, 1, 1, 0));
        TributePitches x = chartedAlready();
        c.due("chart of what is not so", TributePitches.STATE, x.chart(0, 2, 1, 1, 0));
        c.due("that is no fault", 0, x.fault());
        c.due("chart of what is so", 0, x.chart(0, 2, 0, 1, 0));
    }

    /** (0, 0) is 500, as cell 0 of SHEET 0 is, which has 501 in cell 1; the latest FAULT is 3. */
    private static TributePitches chartedAlready() {
        TributePitches x = new TributePitches();
        x.find(0, 0, 500, 500);
        Mines.row(x, 0, 2, 500, 501);
        x.put(0, 2, 0);
        return x;
    }

    private static void chartFaultsInOrder(Checks c) {
        TributePitches x = charts();
        c.due("no sheet ahead of no lane", TributePitches.UNKNOWN, x.chart(4, 3, -1, -1, 0));
        c.due("no square ahead of no lane", TributePitches.UNKNOWN, x.chart(0, 3, -1, -1, 48));
        c.due("no square ahead of nothing", TributePitches.UNKNOWN, x.chart(3, 0, 0, 1, 48));
        c.due("no lane ahead of nothing", TributePitches.OUTSIDE, x.chart(3, 3, -1, -1, 0));
        c.due("no lane ahead of size", TributePitches.OUTSIDE, x.chart(0, -1, -1, -1, 0));
        c.fault(x, "cast ahead of size", 2, x.chart(0, 1, -1, -1, 0));
        c.fault(x, "cast ahead of index", 2, x.chart(0, 1, 3, 1, 0));
        c.fault(x, "null ahead of size", 1, x.chart(3, 1, -1, -1, 0));
        c.fault(x, "null ahead of index", 1, x.chart(3, 1, 0, 1, 47));
        c.fault(x, "size ahead of index of cells", 4, x.chart(0, 0, -1, -1, 0));
        c.fault(x, "size ahead of index of cells", 4, x.chart(0, 0, 4, -1, 0));
    }

    private static void chartRefusesLast(Checks c) {
        TributePitches x = new TributePitches();
        Mines.row(x, 0, 2, 1001, 600);
        x.find(0, 0, 500, 500);
        x.find(7, 5, 500, 500);
        c.fault(x, "index of cells ahead of a cell above 1000", 3, x.chart(0, 2, 0, 3, 10));
        c.fault(x, "index of squares ahead of a cell above 1000", 3, x.chart(0, 2, 0, 2, 47));
        c.fault(x, "index of cells ahead of what is not so", 3, x.chart(0, 2, 1, 2, 0));
        x.put(0, 0, 600);
        c.fault(x, "index of squares ahead of what is not so", 3, x.chart(0, 2, 0, 2, 47));
        x.put(0, 1, 1001);
        c.due("a cell above 1000 ahead of what is not so", TributePitches.OUTSIDE, x.chart(0, 2, 0, 2, 0));
        c.due("what is not so", TributePitches.STATE, x.chart(0, 2, 0, 1, 0));
    }
}
