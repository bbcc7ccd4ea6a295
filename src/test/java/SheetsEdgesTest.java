/** The edges that the document names of SHEETS in part 4 of its terms, and in promises 22 to 26. */
public final class SheetsEdgesTest {
    private static final int MIN = Edges.MIN, MAX = Edges.MAX;
    private static final int[] NO_SHEETS = {-1, 4, MIN, MAX}, NO_LANES = {-1, 3, MIN, MAX};

    public static void main(String[] args) {
        Edges e = new Edges();
        e.term("SHEETS 0 .. 3 have nothing (at first)", SheetsEdgesTest::sheetsHaveNothingAtFirst);
        e.term("a row of 0 .. 48 numbers", SheetsEdgesTest::rowsOfAnyLength);
        e.term("(0 at first)", SheetsEdgesTest::rowsAreOfNaughts);
        e.term("of a LANE: 0 bytes, 1 shorts, 2 ints", SheetsEdgesTest::sheetOfNoLane);
        e.term("what comes to a cell of it is cut to its LANE", SheetsEdgesTest::cellsAreCut);

        e.promise(22, "A SHEET gets a new row", SheetsEdgesTest::newRowForgetsTheOldOne);
        e.promise(22, "UNKNOWN", SheetsEdgesTest::sheetOfNoPlace);
        e.promise(22, "OUTSIDE: lane", SheetsEdgesTest::sheetOfNoLane);
        e.promise(22, "n above 48", SheetsEdgesTest::sheetThatIsTooLong);
        e.promise(22, "SIZE", SheetsEdgesTest::sheetOfASizeBelowNaught);
        e.promise(22, "UNKNOWN; OUTSIDE: lane, n above 48; SIZE", SheetsEdgesTest::sheetRefusesInOrder);

        e.promise(23, "A SHEET has nothing: 1", SheetsEdgesTest::loseLeavesNothing);
        e.promise(23, "0: it had nothing", SheetsEdgesTest::loseNothing);
        e.promise(23, "UNKNOWN", SheetsEdgesTest::loseNoSheet);

        e.promise(24, "Cell i of a SHEET becomes v", SheetsEdgesTest::putAtBothEnds);
        e.promise(24, "UNKNOWN", SheetsEdgesTest::putOnNoSheet);
        e.promise(24, "NULL", SheetsEdgesTest::putOnNothing);
        e.promise(24, "INDEX", SheetsEdgesTest::putOnNoCell);
        e.promise(24, "UNKNOWN; NULL; INDEX", SheetsEdgesTest::putRefusesInOrder);

        e.promise(25, "LOST: UNKNOWN", SheetsEdgesTest::cellOfNoSheet);
        e.promise(25, "OUTSIDE: lane", SheetsEdgesTest::cellOfNoLane);
        e.promise(25, "FAULTS CAST", SheetsEdgesTest::cellOfAnotherLane);
        e.promise(25, "(nothing is no CAST), NULL", SheetsEdgesTest::cellOfNothing);
        e.promise(25, "INDEX", SheetsEdgesTest::cellThatIsNot);
        e.promise(25, "LOST: UNKNOWN, OUTSIDE: lane; FAULTS CAST (nothing is no CAST), NULL, INDEX",
            SheetsEdgesTest::cellRefusesInOrder);

        e.promise(26, "(perhaps the same)", SheetsEdgesTest::copyToTheSame);
        e.promise(26, "as they were", SheetsEdgesTest::copyOverItself);
        e.promise(26, "n cells of a SHEET from i on go to another one", SheetsEdgesTest::copyOfNoneAndOfAll);
        e.promise(26, "UNKNOWN", SheetsEdgesTest::copyOfNoSheet);
        e.promise(26, "FAULTS NULL (the first, the other)", SheetsEdgesTest::copyOfNothing);
        e.promise(26, "CAST (unlike LANES)", SheetsEdgesTest::copyToAnotherLane);
        e.promise(26, "INDEX: i", SheetsEdgesTest::copyFromNoCell);
        e.promise(26, "j, n below 0 or beyond", SheetsEdgesTest::copyToNoCell);
        e.promise(26, "n below 0 or beyond", SheetsEdgesTest::copyOfOtherCounts);
        e.promise(26, "UNKNOWN; FAULTS NULL (the first, the other), CAST (unlike LANES), INDEX",
            SheetsEdgesTest::copyRefusesInOrder);
        e.close(22, 26);
    }

    /** SHEETS 0 .. 2 of each LANE with 1, 2, 3; SHEET 3 has nothing. */
    private static TributePitches sheets() {
        TributePitches x = new TributePitches();
        for (int lane = 0; lane < 3; lane++) Mines.row(x, lane, lane, 1, 2, 3);
        return x;
    }

    // ---- part 4, and promise 22

    private static void sheetsHaveNothingAtFirst(Checks c) {
        TributePitches x = new TributePitches();
        for (int k = 0; k < 4; k++) {
            c.fault(x, "put on sheet " + k, 1, x.put(k, 0, 1));
            for (int lane = 0; lane < 3; lane++) c.lost(x, "cell of sheet " + k, 1, x.cell(k, 0, lane));
            c.due("lose sheet " + k, 0, x.lose(k));
        }
        for (int k = 0; k < 4; k++) c.due("sheet " + k, 1, x.sheet(k, 0, 1));
        for (int k = 0; k < 4; k++) c.cells(x, k, 0, 0);
    }

    private static void rowsOfAnyLength(Checks c) {
        for (int lane = 0; lane < 3; lane++) {
            for (int n : new int[] {0, 1, 47, 48}) {
                TributePitches x = new TributePitches();
                c.due("sheet of " + n, 1, x.sheet(3, lane, n));
                c.due("no fault", 0, x.fault());
                c.cells(x, 3, lane, new int[n]);
                if (n > 0) c.due("put on the last", 1, x.put(3, n - 1, 7));
                c.fault(x, "put after the last", 3, x.put(3, n, 7));
            }
        }
    }

    private static void rowsAreOfNaughts(Checks c) {
        TributePitches x = new TributePitches();
        for (int lane = 0; lane < 3; lane++) {
            x.sheet(lane, lane, 48);
            c.cells(x, lane, lane, new int[48]);
        }
    }

    private static void sheetOfNoLane(Checks c) {
        for (int lane : NO_LANES) {
            Seen.unchanged(c, SheetsEdgesTest::sheets, "sheet of lane " + lane, TributePitches.OUTSIDE,
                x -> x.sheet(0, lane, 1));
            TributePitches x = sheets();
            x.put(0, 3, 0);
            x.sheet(0, lane, 1);
            c.due("that is no fault", 0, x.fault());
        }
        TributePitches x = new TributePitches();
        for (int lane = 0; lane < 3; lane++) {
            c.due("sheet of lane " + lane, 1, x.sheet(lane, lane, 1));
            c.cells(x, lane, lane, 0);
        }
    }

    private static void cellsAreCut(Checks c) {
        int[][] values = {{127, 127, 127, 127}, {128, -128, 128, 128}, {-128, -128, -128, -128},
            {-129, 127, -129, -129}, {255, -1, 255, 255}, {256, 0, 256, 256}, {1001, -23, 1001, 1001},
            {32767, -1, 32767, 32767}, {32768, 0, -32768, 32768}, {-32768, 0, -32768, -32768},
            {-32769, -1, 32767, -32769}, {65535, -1, -1, 65535}, {65536, 0, 0, 65536}, {MAX, -1, -1, MAX},
            {MIN, 0, 0, MIN}, {-1, -1, -1, -1}, {0, 0, 0, 0}};
        TributePitches x = sheets();
        for (int[] row : values) {
            for (int lane = 0; lane < 3; lane++) {
                c.due("put " + row[0], 1, x.put(lane, 1, row[0]));
                c.due(row[0] + " in lane " + lane, row[lane + 1], x.cell(lane, 1, lane));
            }
        }
        for (int lane = 0; lane < 3; lane++) c.cells(x, lane, lane, 1, 0, 3);
    }

    private static void newRowForgetsTheOldOne(Checks c) {
        for (int lane = 0; lane < 3; lane++) {
            TributePitches x = sheets();
            c.due("a new row of as many", 1, x.sheet(lane, lane, 3));
            c.cells(x, lane, lane, 0, 0, 0);
            x.put(lane, 2, 9);
            x.sheet(lane, lane, 1);
            c.cells(x, lane, lane, 0);
            x.sheet(lane, lane, 4);
            c.cells(x, lane, lane, 0, 0, 0, 0);
            x.sheet(lane, (lane + 1) % 3, 2);
            c.cells(x, lane, (lane + 1) % 3, 0, 0);
            c.lost(x, "of the lane that it had", 2, x.cell(lane, 0, lane));
            c.cells(x, (lane + 1) % 3, (lane + 1) % 3, 1, 2, 3);
        }
    }

    private static void sheetOfNoPlace(Checks c) {
        for (int k : NO_SHEETS) {
            Seen.unchanged(c, SheetsEdgesTest::sheets, "sheet " + k, TributePitches.UNKNOWN, x -> x.sheet(k, 0, 1));
            TributePitches x = sheets();
            x.put(0, 3, 0);
            x.sheet(k, 0, 1);
            c.due("that is no fault", 0, x.fault());
        }
    }

    private static void sheetThatIsTooLong(Checks c) {
        for (int n : new int[] {49, 1000, MAX}) {
            Seen.unchanged(c, SheetsEdgesTest::sheets, "sheet of " + n, TributePitches.OUTSIDE, x -> x.sheet(0, 0, n));
            TributePitches x = sheets();
            x.put(0, 3, 0);
            x.sheet(3, 0, n);
            c.due("that is no fault", 0, x.fault());
            c.due("there is still nothing", 0, x.lose(3));
        }
        c.due("sheet of 48", 1, sheets().sheet(0, 0, 48));
    }

    private static void sheetOfASizeBelowNaught(Checks c) {
        for (int n : new int[] {-1, -48, -49, MIN}) {
            Seen.unchanged(c, SheetsEdgesTest::sheets, "sheet of " + n, -14, x -> x.sheet(0, 0, n));
            TributePitches x = sheets();
            c.fault(x, "sheet of " + n, 4, x.sheet(3, 0, n));
            c.due("there is still nothing", 0, x.lose(3));
        }
        c.due("sheet of 0", 1, sheets().sheet(0, 0, 0));
    }

    private static void sheetRefusesInOrder(Checks c) {
        c.due("no sheet ahead of lane", TributePitches.UNKNOWN, sheets().sheet(4, 3, 1));
        c.due("no sheet ahead of too long", TributePitches.UNKNOWN, sheets().sheet(4, 0, 49));
        c.due("no sheet ahead of size", TributePitches.UNKNOWN, sheets().sheet(-1, 0, -1));
        TributePitches x = sheets();
        c.due("lane ahead of size", TributePitches.OUTSIDE, x.sheet(0, 3, -1));
        c.due("that is no fault", 0, x.fault());
    }

    // ---- promise 23

    private static void loseLeavesNothing(Checks c) {
        TributePitches x = sheets();
        x.sheet(3, 0, 0);
        for (int k = 0; k < 4; k++) c.due("lose " + k, 1, x.lose(k));
        for (int k = 0; k < 4; k++) {
            c.fault(x, "put on it", 1, x.put(k, 0, 1));
            for (int lane = 0; lane < 3; lane++) c.lost(x, "cell of it", 1, x.cell(k, 0, lane));
        }
        TributePitches z = sheets();
        z.lose(1);
        c.cells(z, 0, 0, 1, 2, 3);
        c.cells(z, 2, 2, 1, 2, 3);
        z.sheet(1, 1, 3);
        c.cells(z, 1, 1, 0, 0, 0);
    }

    private static void loseNothing(Checks c) {
        Seen.unchanged(c, SheetsEdgesTest::sheets, "lose nothing", 0, x -> x.lose(3));
        TributePitches x = sheets();
        x.lose(0);
        c.due("lose again", 0, x.lose(0));
        x.sheet(0, 0, 0);
        c.due("a row of none is not nothing", 1, x.lose(0));
    }

    private static void loseNoSheet(Checks c) {
        for (int k : NO_SHEETS) {
            Seen.unchanged(c, SheetsEdgesTest::sheets, "lose " + k, TributePitches.UNKNOWN, x -> x.lose(k));
        }
    }

    // ---- promise 24

    private static void putAtBothEnds(Checks c) {
        for (int lane = 0; lane < 3; lane++) {
            TributePitches x = sheets();
            c.due("put on the first", 1, x.put(lane, 0, 10));
            c.due("put on the last", 1, x.put(lane, 2, 30));
            c.cells(x, lane, lane, 10, 2, 30);
            c.cells(x, (lane + 1) % 3, (lane + 1) % 3, 1, 2, 3);
        }
        TributePitches x = new TributePitches();
        x.sheet(3, 2, 48);
        c.due("put on the last of 48", 1, x.put(3, 47, MAX));
        c.due("it", MAX, x.cell(3, 47, 2));
    }

    private static void putOnNoSheet(Checks c) {
        for (int k : NO_SHEETS) {
            Seen.unchanged(c, SheetsEdgesTest::sheets, "put on sheet " + k, TributePitches.UNKNOWN,
                x -> x.put(k, 0, 9));
            TributePitches x = sheets();
            x.put(0, 3, 0);
            x.put(k, 0, 9);
            c.due("that is no fault", 0, x.fault());
        }
    }

    private static void putOnNothing(Checks c) {
        Seen.unchanged(c, SheetsEdgesTest::sheets, "put on nothing", -11, x -> x.put(3, 0, 9));
        TributePitches x = sheets();
        c.fault(x, "put on nothing", 1, x.put(3, 0, 9));
        x.lose(0);
        c.fault(x, "put on what was lost", 1, x.put(0, 0, 9));
        x.sheet(0, 0, 0);
        c.fault(x, "a row of none is not nothing", 3, x.put(0, 0, 9));
    }

    private static void putOnNoCell(Checks c) {
        for (int i : new int[] {-1, 3, 47, 48, MIN, MAX}) {
            for (int lane = 0; lane < 3; lane++) {
                int k = lane;
                Seen.unchanged(c, SheetsEdgesTest::sheets, "put on cell " + i, -13, x -> x.put(k, i, 9));
            }
            TributePitches x = sheets();
            c.fault(x, "put on cell " + i, 3, x.put(0, i, 9));
        }
        TributePitches x = new TributePitches();
        x.sheet(0, 0, 48);
        c.fault(x, "put after 48", 3, x.put(0, 48, 9));
        c.due("put on the last of them", 1, x.put(0, 47, 9));
        c.due("no fault then", 0, x.fault());
    }

    private static void putRefusesInOrder(Checks c) {
        c.due("no sheet ahead of no cell", TributePitches.UNKNOWN, sheets().put(4, -1, 9));
        TributePitches x = sheets();
        c.fault(x, "nothing ahead of no cell", 1, x.put(3, -1, 9));
        c.fault(x, "nothing ahead of no cell", 1, x.put(3, 48, 9));
    }

    // ---- promise 25

    private static void cellOfNoSheet(Checks c) {
        for (int k : NO_SHEETS) {
            TributePitches x = sheets();
            x.put(0, 3, 0);
            c.lost(x, "cell of sheet " + k, 0, x.cell(k, 0, 0));
        }
        TributePitches x = sheets();
        x.sheet(3, 0, 1);
        c.due("of the first sheet", 1, x.cell(0, 0, 0));
        c.due("of the last sheet", 0, x.cell(3, 0, 0));
    }

    private static void cellOfNoLane(Checks c) {
        for (int lane : NO_LANES) {
            TributePitches x = sheets();
            x.put(0, 3, 0);
            c.lost(x, "cell by lane " + lane, 0, x.cell(0, 0, lane));
        }
    }

    private static void cellOfAnotherLane(Checks c) {
        TributePitches x = sheets();
        for (int k = 0; k < 3; k++) {
            for (int lane = 0; lane < 3; lane++) {
                if (lane != k) c.lost(x, "cell of " + k + " by " + lane, 2, x.cell(k, 0, lane));
                else c.due("cell of " + k, 1, x.cell(k, 0, lane));
            }
        }
        x.sheet(3, 0, 0);
        c.lost(x, "cell of a row of none of another lane", 2, x.cell(3, 0, 1));
    }

    private static void cellOfNothing(Checks c) {
        TributePitches x = sheets();
        for (int lane = 0; lane < 3; lane++) {
            c.lost(x, "cell of nothing", 1, x.cell(3, 0, lane));
            x.lose(lane);
            c.lost(x, "cell of what was lost", 1, x.cell(lane, 0, lane));
        }
    }

    private static void cellThatIsNot(Checks c) {
        TributePitches x = sheets();
        for (int lane = 0; lane < 3; lane++) {
            for (int i : new int[] {-1, 3, 47, 48, MIN, MAX}) c.lost(x, "cell " + i, 3, x.cell(lane, i, lane));
            c.due("the first", 1, x.cell(lane, 0, lane));
            c.due("the last", 3, x.cell(lane, 2, lane));
            c.due("no fault then", 0, x.fault());
        }
        x.sheet(3, 1, 0);
        c.lost(x, "the first of none", 3, x.cell(3, 0, 1));
    }

    private static void cellRefusesInOrder(Checks c) {
        TributePitches x = sheets();
        c.lost(x, "no sheet ahead of no cell", 0, x.cell(4, -1, 0));
        c.lost(x, "no lane ahead of nothing", 0, x.cell(3, 0, 3));
        c.lost(x, "no lane ahead of no cell", 0, x.cell(0, 3, 3));
        c.lost(x, "cast ahead of no cell", 2, x.cell(0, 3, 1));
        c.lost(x, "cast ahead of no cell", 2, x.cell(0, -1, 2));
        c.lost(x, "nothing ahead of no cell", 1, x.cell(3, -1, 0));
    }

    // ---- promise 26

    private static void copyToTheSame(Checks c) {
        for (int lane = 0; lane < 3; lane++) {
            TributePitches x = sheets();
            c.due("one to another place", 1, x.copy(lane, 0, lane, 2, 1));
            c.cells(x, lane, lane, 1, 2, 1);
            c.due("all to where they are", 3, x.copy(lane, 0, lane, 0, 3));
            c.cells(x, lane, lane, 1, 2, 1);
        }
    }

    private static void copyOverItself(Checks c) {
        TributePitches x = new TributePitches();
        Mines.row(x, 0, 0, 1, 2, 3, 4, 5);
        c.due("towards the end", 4, x.copy(0, 0, 0, 1, 4));
        c.cells(x, 0, 0, 1, 1, 2, 3, 4);
        Mines.row(x, 1, 2, 1, 2, 3, 4, 5);
        c.due("towards the beginning", 4, x.copy(1, 1, 1, 0, 4));
        c.cells(x, 1, 2, 2, 3, 4, 5, 5);
        Mines.row(x, 2, 1, 1, 2, 3, 4, 5);
        c.due("by two", 3, x.copy(2, 0, 2, 2, 3));
        c.cells(x, 2, 1, 1, 2, 1, 2, 3);
    }

    private static void copyOfNoneAndOfAll(Checks c) {
        TributePitches x = sheets();
        Mines.row(x, 3, 1, 7, 8);
        c.due("none", 0, x.copy(1, 0, 3, 0, 0));
        c.due("none at both ends", 0, x.copy(1, 3, 3, 2, 0));
        c.due("no fault", 0, x.fault());
        c.cells(x, 3, 1, 7, 8);
        c.due("one", 1, x.copy(1, 2, 3, 1, 1));
        c.cells(x, 3, 1, 7, 3);
        c.due("as many as the other has", 2, x.copy(1, 0, 3, 0, 2));
        c.cells(x, 3, 1, 1, 2);
        c.cells(x, 1, 1, 1, 2, 3);
        TributePitches z = new TributePitches();
        z.sheet(0, 2, 48);
        z.sheet(3, 2, 48);
        z.put(0, 0, MIN);
        z.put(0, 47, MAX);
        c.due("48", 48, z.copy(0, 0, 3, 0, 48));
        c.due("the first of 48", MIN, z.cell(3, 0, 2));
        c.due("the last of 48", MAX, z.cell(3, 47, 2));
        z.sheet(1, 2, 0);
        c.due("none of none", 0, z.copy(1, 0, 1, 0, 0));
        c.due("none of none to some", 0, z.copy(1, 0, 0, 48, 0));
    }

    private static void copyOfNoSheet(Checks c) {
        for (int k : NO_SHEETS) {
            Seen.unchanged(c, SheetsEdgesTest::sheets, "copy of sheet " + k, TributePitches.UNKNOWN,
                x -> x.copy(k, 0, 0, 0, 1));
            Seen.unchanged(c, SheetsEdgesTest::sheets, "copy to sheet " + k, TributePitches.UNKNOWN,
                x -> x.copy(0, 0, k, 0, 1));
            TributePitches x = sheets();
            x.put(0, 3, 0);
            x.copy(0, 0, k, 0, 1);
            c.due("that is no fault", 0, x.fault());
        }
    }

    private static void copyOfNothing(Checks c) {
        TributePitches x = sheets();
        for (int k = 0; k < 3; k++) {
            c.fault(x, "copy of nothing", 1, x.copy(3, 0, k, 0, 1));
            c.fault(x, "copy to nothing", 1, x.copy(k, 0, 3, 0, 1));
            c.fault(x, "copy of no cells of nothing", 1, x.copy(3, 0, k, 0, 0));
            c.fault(x, "copy of no cells to nothing", 1, x.copy(k, 0, 3, 0, 0));
            c.cells(x, k, k, 1, 2, 3);
        }
        c.fault(x, "copy of nothing to itself", 1, x.copy(3, 0, 3, 0, 0));
    }

    private static void copyToAnotherLane(Checks c) {
        TributePitches x = sheets();
        for (int k = 0; k < 3; k++) {
            for (int other = 0; other < 3; other++) {
                if (other == k) continue;
                c.fault(x, "copy of " + k + " to " + other, 2, x.copy(k, 0, other, 0, 1));
                c.fault(x, "copy of no cells of " + k + " to " + other, 2, x.copy(k, 0, other, 0, 0));
            }
        }
        for (int k = 0; k < 3; k++) c.cells(x, k, k, 1, 2, 3);
    }

    /** SHEET 0 has 1, 2, 3 and SHEET 1 has 7, 8, both shorts. */
    private static TributePitches two() {
        TributePitches x = new TributePitches();
        Mines.row(x, 0, 1, 1, 2, 3);
        Mines.row(x, 1, 1, 7, 8);
        return x;
    }

    private static void beyond(Checks c, int i, int j, int n) {
        String call = "copy of " + n + " from " + i + " to " + j;
        Seen.unchanged(c, SheetsEdgesTest::two, call, -13, x -> x.copy(0, i, 1, j, n));
        TributePitches x = two();
        c.fault(x, call, 3, x.copy(0, i, 1, j, n));
    }

    private static void copyFromNoCell(Checks c) {
        for (int i : new int[] {-1, 3, 4, 48, MIN, MAX}) beyond(c, i, 0, 1);
        for (int i : new int[] {-1, 4, 49, MIN, MAX}) beyond(c, i, 0, 0);
        beyond(c, 2, 0, 2);
        c.due("of the last", 1, two().copy(0, 2, 1, 0, 1));
        c.due("of none after the last", 0, two().copy(0, 3, 1, 0, 0));
    }

    private static void copyToNoCell(Checks c) {
        for (int j : new int[] {-1, 2, 3, 48, MIN, MAX}) beyond(c, 0, j, 1);
        for (int j : new int[] {-1, 3, 49, MIN, MAX}) beyond(c, 0, j, 0);
        beyond(c, 0, 1, 2);
        c.due("to the last", 1, two().copy(0, 0, 1, 1, 1));
        c.due("none to after the last", 0, two().copy(0, 0, 1, 2, 0));
    }

    private static void copyOfOtherCounts(Checks c) {
        for (int n : new int[] {-1, 3, 4, 48, MIN, MAX}) beyond(c, 0, 0, n);
        beyond(c, 1, 1, MAX);
        beyond(c, MAX, 0, MAX);
        beyond(c, 0, MAX, MAX);
        beyond(c, 1, 1, -1);
        beyond(c, MIN, MIN, MIN);
        c.due("two", 2, two().copy(0, 0, 1, 0, 2));
        TributePitches x = two();
        c.fault(x, "more than the first has", 3, x.copy(1, 0, 0, 0, 3));
    }

    private static void copyRefusesInOrder(Checks c) {
        TributePitches x = sheets();
        c.due("no other sheet ahead of nothing", TributePitches.UNKNOWN, x.copy(3, 0, 4, 0, 1));
        c.due("no sheet ahead of nothing", TributePitches.UNKNOWN, x.copy(4, 0, 3, 0, 1));
        c.due("no sheet ahead of no cell", TributePitches.UNKNOWN, x.copy(4, -1, 0, 0, 1));
        c.fault(x, "nothing ahead of no cell", 1, x.copy(0, -1, 3, -1, -1));
        c.fault(x, "nothing ahead of no cell", 1, x.copy(3, -1, 0, -1, -1));
        c.fault(x, "cast ahead of no cell", 2, x.copy(0, -1, 1, 0, 1));
        c.fault(x, "cast ahead of no cell", 2, x.copy(0, 0, 1, 0, -1));
    }
}
