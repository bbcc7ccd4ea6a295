/** Promises 22 to 26, what is asked for every day: sheet, lose, put, cell, copy. */
public final class SheetsTest {
    private static final int MIN = Integer.MIN_VALUE, MAX = Integer.MAX_VALUE;
    private static final Checks c = new Checks();

    public static void main(String[] args) {
        sheetMakesARowOfNaughts();
        loseLeavesNothing();
        putCutsToTheLane();
        cellTells();
        copyCopies();
        copyWithinOneSheet();
        c.close();
    }

    private static void sheetMakesARowOfNaughts() {
        TributePitches x = new TributePitches();
        for (int lane = 0; lane < 3; lane++) {
            c.due("sheet", 1, x.sheet(lane, lane, 48));
            for (int i = 0; i < 48; i++) c.due("new cell", 0, x.cell(lane, i, lane));
        }
        c.due("sheet of no cells", 1, x.sheet(3, 0, 0));
        c.lost(x, "cell of a row of none", 3, x.cell(3, 0, 0));
        x.put(0, 0, 9);
        x.put(0, 47, 9);
        c.due("sheet anew", 1, x.sheet(0, 1, 48));
        c.due("new cell again", 0, x.cell(0, 0, 1));
        c.due("new cell again", 0, x.cell(0, 47, 1));
        c.lost(x, "of another lane now", 2, x.cell(0, 0, 0));
        x.put(0, 5, 9);
        x.sheet(0, 1, 5);
        c.lost(x, "shorter now", 3, x.cell(0, 5, 1));
        x.sheet(0, 1, 6);
        c.due("longer, with naught", 0, x.cell(0, 5, 1));
    }

    private static void loseLeavesNothing() {
        TributePitches x = new TributePitches();
        for (int k = 0; k < 4; k++) {
            c.due("lose nothing", 0, x.lose(k));
            x.sheet(k, k % 3, k);
        }
        for (int k = 0; k < 4; k++) {
            c.due("lose", 1, x.lose(k));
            c.due("lose again", 0, x.lose(k));
            c.fault(x, "put on nothing", 1, x.put(k, 0, 1));
        }
        x.sheet(1, 2, 2);
        x.put(1, 0, 5);
        x.lose(1);
        x.sheet(1, 2, 2);
        c.due("a new row after a lost one", 0, x.cell(1, 0, 2));
    }

    private static void putCutsToTheLane() {
        TributePitches x = new TributePitches();
        for (int lane = 0; lane < 3; lane++) x.sheet(lane, lane, 2);
        int[] values = {0, 1, -1, 127, 128, -128, -129, 255, 256, 32767, 32768, -32768, -32769, 65536, MIN, MAX};
        for (int v : values) {
            for (int lane = 0; lane < 3; lane++) c.due("put", 1, x.put(lane, 1, v));
            c.due("byte of " + v, (byte) v, x.cell(0, 1, 0));
            c.due("short of " + v, (short) v, x.cell(1, 1, 1));
            c.due("int of " + v, v, x.cell(2, 1, 2));
        }
        for (int lane = 0; lane < 3; lane++) c.due("the other cell", 0, x.cell(lane, 0, lane));
    }

    private static void cellTells() {
        TributePitches x = new TributePitches();
        x.sheet(3, 2, 3);
        x.put(3, 0, 10);
        x.put(3, 2, -30);
        c.due("cell 0", 10, x.cell(3, 0, 2));
        c.due("cell 1", 0, x.cell(3, 1, 2));
        c.due("cell 2", -30, x.cell(3, 2, 2));
        c.due("no fault", 0, x.fault());
    }

    private static void copyCopies() {
        TributePitches x = new TributePitches();
        Mines.row(x, 0, 1, 1, 2, 3, 4);
        Mines.row(x, 1, 1, 10, 20, 30);
        c.due("copy", 2, x.copy(0, 1, 1, 0, 2));
        c.cells(x, 1, 1, 2, 3, 30);
        c.cells(x, 0, 1, 1, 2, 3, 4);
        c.due("copy to the end", 2, x.copy(0, 2, 1, 1, 2));
        c.cells(x, 1, 1, 2, 3, 4);
        c.due("copy none", 0, x.copy(0, 0, 1, 0, 0));
        c.due("copy none at both ends", 0, x.copy(0, 4, 1, 3, 0));
        c.due("no fault", 0, x.fault());
        c.cells(x, 1, 1, 2, 3, 4);
        c.due("copy all", 3, x.copy(1, 0, 0, 0, 3));
        c.cells(x, 0, 1, 2, 3, 4, 4);
        x.sheet(2, 0, 48);
        x.sheet(3, 0, 48);
        x.put(2, 47, 5);
        c.due("copy 48", 48, x.copy(2, 0, 3, 0, 48));
        c.due("the last of 48", 5, x.cell(3, 47, 0));
    }

    private static void copyWithinOneSheet() {
        TributePitches x = new TributePitches();
        Mines.row(x, 0, 0, 1, 2, 3, 4, 5);
        c.due("copy ahead", 4, x.copy(0, 0, 0, 1, 4));
        c.cells(x, 0, 0, 1, 1, 2, 3, 4);
        c.due("copy back", 4, x.copy(0, 1, 0, 0, 4));
        c.cells(x, 0, 0, 1, 2, 3, 4, 4);
        c.due("copy in place", 5, x.copy(0, 0, 0, 0, 5));
        c.cells(x, 0, 0, 1, 2, 3, 4, 4);
    }
}
