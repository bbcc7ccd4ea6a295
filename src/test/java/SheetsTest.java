/** Promises 22 to 26: sheet, lose, put, cell, copy. */
public final class SheetsTest {
    private static final int MIN = Integer.MIN_VALUE, MAX = Integer.MAX_VALUE;
    private static final Checks c = new Checks();

    public static void main(String[] args) {
        sheetMakesARowOfNaughts();
        sheetRefuses();
        loseLeavesNothing();
        putCutsToTheLane();
        putRefuses();
        cellTells();
        cellRefuses();
        copyCopies();
        copyWithinOneSheet();
        copyRefuses();
        copyTellsInOrder();
        c.close();
    }

    private static void sheetMakesARowOfNaughts() {
        TributePitches x = new TributePitches();
        for (int lane = 0; lane < 3; lane++) {
            c.due("sheet", 1, x.sheet(lane, lane, 48));
            for (int i = 0; i < 48; i++) c.due("new cell", 0, x.cell(lane, i, lane));
        }
        c.due("sheet of no cells", 1, x.sheet(3, 0, 0));
        lost(x, "cell of a row of none", 3, x.cell(3, 0, 0));
        x.put(0, 0, 9);
        x.put(0, 47, 9);
        c.due("sheet anew", 1, x.sheet(0, 1, 48));
        c.due("new cell again", 0, x.cell(0, 0, 1));
        c.due("new cell again", 0, x.cell(0, 47, 1));
        lost(x, "of another lane now", 2, x.cell(0, 0, 0));
        x.put(0, 5, 9);
        x.sheet(0, 1, 5);
        lost(x, "shorter now", 3, x.cell(0, 5, 1));
        x.sheet(0, 1, 6);
        c.due("longer, with naught", 0, x.cell(0, 5, 1));
    }

    private static void sheetRefuses() {
        TributePitches x = new TributePitches();
        x.sheet(0, 1, 3);
        x.put(0, 1, 7);
        for (int k : new int[] {-1, 4, MIN, MAX}) {
            c.due("no sheet", TributePitches.UNKNOWN, x.sheet(k, 0, 1));
            c.due("no sheet, outside", TributePitches.UNKNOWN, x.sheet(k, 3, 49));
            c.due("no sheet, size", TributePitches.UNKNOWN, x.sheet(k, 0, -1));
        }
        for (int lane : new int[] {-1, 3, MIN, MAX}) {
            c.due("no lane", TributePitches.OUTSIDE, x.sheet(0, lane, 1));
            c.due("no lane, size", TributePitches.OUTSIDE, x.sheet(0, lane, -1));
        }
        for (int n : new int[] {49, MAX}) c.due("too long", TributePitches.OUTSIDE, x.sheet(0, 0, n));
        for (int n : new int[] {-1, MIN}) c.fault(x, "a length below 0", 4, x.sheet(0, 0, n));
        c.due("the row stays", 7, x.cell(0, 1, 1));
        c.fault(x, "a length below 0", 4, x.sheet(3, 0, -1));
        c.due("still nothing", 0, x.lose(3));
    }

    private static void loseLeavesNothing() {
        TributePitches x = new TributePitches();
        for (int k = 0; k < 4; k++) {
            c.due("lose nothing", 0, x.lose(k));
            x.sheet(k, k % 3, k);
        }
        for (int k = 0; k < 4; k++) {
            c.due("lose", 1, x.lose(k));
            c.due("lose again", 0, x.lose(k));
            c.fault(x, "put on nothing", 1, x.put(k, 0, 1));
        }
        for (int k : new int[] {-1, 4, MIN, MAX}) c.due("lose no sheet", TributePitches.UNKNOWN, x.lose(k));
        x.sheet(1, 2, 2);
        x.put(1, 0, 5);
        x.lose(1);
        x.sheet(1, 2, 2);
        c.due("a new row after a lost one", 0, x.cell(1, 0, 2));
    }

    private static void putCutsToTheLane() {
        TributePitches x = new TributePitches();
        for (int lane = 0; lane < 3; lane++) x.sheet(lane, lane, 2);
        int[] values = {0, 1, -1, 127, 128, -128, -129, 255, 256, 32767, 32768, -32768, -32769, 65536, MIN, MAX};
        for (int v : values) {
            for (int lane = 0; lane < 3; lane++) c.due("put", 1, x.put(lane, 1, v));
            c.due("byte of " + v, (byte) v, x.cell(0, 1, 0));
            c.due("short of " + v, (short) v, x.cell(1, 1, 1));
            c.due("int of " + v, v, x.cell(2, 1, 2));
        }
        for (int lane = 0; lane < 3; lane++) c.due("the other cell", 0, x.cell(lane, 0, lane));
    }

    private static void putRefuses() {
        TributePitches x = new TributePitches();
        x.sheet(0, 2, 3);
        for (int k : new int[] {-1, 4, MIN, MAX}) c.due("put on no sheet", TributePitches.UNKNOWN, x.put(k, 0, 1));
        for (int i : new int[] {-1, 3, 47, 48, MIN, MAX}) c.fault(x, "put on no cell", 3, x.put(0, i, 1));
        for (int i : new int[] {-1, 0, 3}) c.fault(x, "put on nothing", 1, x.put(1, i, 1));
        for (int i = 0; i < 3; i++) c.due("as it was", 0, x.cell(0, i, 2));
        c.due("put on the last", 1, x.put(0, 2, 1));
        c.due("no fault then", 0, x.fault());
    }

    private static void cellTells() {
        TributePitches x = new TributePitches();
        x.sheet(3, 2, 3);
        x.put(3, 0, 10);
        x.put(3, 2, -30);
        c.due("cell 0", 10, x.cell(3, 0, 2));
        c.due("cell 1", 0, x.cell(3, 1, 2));
        c.due("cell 2", -30, x.cell(3, 2, 2));
        c.due("no fault", 0, x.fault());
    }

    private static void cellRefuses() {
        TributePitches x = new TributePitches();
        x.sheet(0, 1, 3);
        for (int k : new int[] {-1, 4, MIN, MAX}) lost(x, "cell of no sheet", 0, x.cell(k, 0, 1));
        for (int lane : new int[] {-1, 3, MIN, MAX}) {
            lost(x, "cell of no lane", 0, x.cell(0, 0, lane));
            lost(x, "cell of no lane, of nothing", 0, x.cell(1, 0, lane));
        }
        lost(x, "cell of another lane", 2, x.cell(0, 0, 0));
        lost(x, "cell of another lane", 2, x.cell(0, 0, 2));
        lost(x, "cast ahead of index", 2, x.cell(0, 3, 2));
        for (int lane = 0; lane < 3; lane++) {
            lost(x, "cell of nothing", 1, x.cell(1, 0, lane));
            lost(x, "null ahead of index", 1, x.cell(1, -1, lane));
        }
        for (int i : new int[] {-1, 3, 48, MIN, MAX}) lost(x, "no cell", 3, x.cell(0, i, 1));
    }

    private static void copyCopies() {
        TributePitches x = new TributePitches();
        Mines.row(x, 0, 1, 1, 2, 3, 4);
        Mines.row(x, 1, 1, 10, 20, 30);
        c.due("copy", 2, x.copy(0, 1, 1, 0, 2));
        cells(x, 1, 1, 2, 3, 30);
        cells(x, 0, 1, 1, 2, 3, 4);
        c.due("copy to the end", 2, x.copy(0, 2, 1, 1, 2));
        cells(x, 1, 1, 2, 3, 4);
        c.due("copy none", 0, x.copy(0, 0, 1, 0, 0));
        c.due("copy none at both ends", 0, x.copy(0, 4, 1, 3, 0));
        c.due("no fault", 0, x.fault());
        cells(x, 1, 1, 2, 3, 4);
        c.due("copy all", 3, x.copy(1, 0, 0, 0, 3));
        cells(x, 0, 1, 2, 3, 4, 4);
        x.sheet(2, 0, 48);
        x.sheet(3, 0, 48);
        x.put(2, 47, 5);
        c.due("copy 48", 48, x.copy(2, 0, 3, 0, 48));
        c.due("the last of 48", 5, x.cell(3, 47, 0));
    }

    private static void copyWithinOneSheet() {
        TributePitches x = new TributePitches();
        Mines.row(x, 0, 0, 1, 2, 3, 4, 5);
        c.due("copy ahead", 4, x.copy(0, 0, 0, 1, 4));
        cells(x, 0, 0, 1, 1, 2, 3, 4);
        c.due("copy back", 4, x.copy(0, 1, 0, 0, 4));
        cells(x, 0, 0, 1, 2, 3, 4, 4);
        c.due("copy in place", 5, x.copy(0, 0, 0, 0, 5));
        cells(x, 0, 0, 1, 2, 3, 4, 4);
    }

    private static void copyRefuses() {
        TributePitches x = new TributePitches();
        Mines.row(x, 0, 1, 1, 2, 3);
        Mines.row(x, 1, 1, 7, 8);
        Mines.row(x, 2, 0, 9);
        for (int k : new int[] {-1, 4, MIN, MAX}) {
            c.due("copy of no sheet", TributePitches.UNKNOWN, x.copy(k, 0, 0, 0, 1));
            c.due("copy to no sheet", TributePitches.UNKNOWN, x.copy(0, 0, k, 0, 1));
        }
        c.fault(x, "copy of nothing", 1, x.copy(3, 0, 0, 0, 1));
        c.fault(x, "copy to nothing", 1, x.copy(0, 0, 3, 0, 1));
        c.fault(x, "copy of nothing to itself", 1, x.copy(3, 0, 3, 0, 0));
        c.fault(x, "copy to another lane", 2, x.copy(0, 0, 2, 0, 1));
        c.fault(x, "copy of another lane", 2, x.copy(2, 0, 0, 0, 1));
        c.fault(x, "copy of none to another lane", 2, x.copy(0, 0, 2, 0, 0));
        int[][] beyond = {{-1, 0, 1}, {0, -1, 1}, {0, 0, -1}, {2, 0, 2}, {0, 1, 2}, {0, 0, 3}, {4, 0, 0}, {0, 3, 0},
            {-1, 0, 0}, {0, -1, 0}, {MAX, 0, MAX}, {0, MAX, MAX}, {1, 1, MAX}, {MIN, MIN, MIN}, {MAX, MAX, 1},
            {3, 0, 1}, {0, 2, 1}, {1, 1, -1}};
        for (int[] b : beyond) c.fault(x, "copy beyond", 3, x.copy(0, b[0], 1, b[1], b[2]));
        cells(x, 0, 1, 1, 2, 3);
        cells(x, 1, 1, 7, 8);
        cells(x, 2, 0, 9);
    }

    private static void copyTellsInOrder() {
        TributePitches x = new TributePitches();
        Mines.row(x, 0, 1, 1);
        Mines.row(x, 1, 2, 1);
        c.due("unknown ahead of null", TributePitches.UNKNOWN, x.copy(3, 0, 4, 0, 0));
        c.due("unknown is no fault", 0, x.fault());
        c.fault(x, "null ahead of index", 1, x.copy(0, -1, 3, 0, 0));
        c.fault(x, "cast ahead of index", 2, x.copy(0, -1, 1, 0, 0));
    }

    private static void cells(TributePitches x, int k, int lane, int... want) {
        for (int i = 0; i < want.length; i++) c.due("cell " + i + " of " + k, want[i], x.cell(k, i, lane));
    }

    private static void lost(TributePitches x, String call, int fault, long answer) {
        c.due(call, TributePitches.LOST, answer);
        c.due(call + ": fault()", fault, x.fault());
    }
}
