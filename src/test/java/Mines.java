/** Objects in the states that tests begin with, and short ways to get on from there. */
final class Mines {
    private Mines() {
    }

    /** One GANG of a kind, and one PITCH of the SQUARE (0, 0) with 3 TONS. */
    static TributePitches small(int kind) {
        TributePitches x = new TributePitches();
        x.gang(kind);
        x.pitch(0, 0, 0, 0, 3);
        return x;
    }

    /** A small one with a TAKE at a SHARE. */
    static TributePitches let(int kind, int share) {
        TributePitches x = small(kind);
        take(x, 0, 0, share);
        return x;
    }

    /** PITCHES of one SQUARE and 1 TON each, along the rows. */
    static TributePitches pitches(int count) {
        TributePitches x = new TributePitches();
        for (int p = 0; p < count; p++) x.pitch(p % 8, p / 8, p % 8, p / 8, 1);
        return x;
    }

    /** A small one that had so many TAKES, all of them SETTLED. */
    static TributePitches afterTakes(int count) {
        TributePitches x = small(0);
        for (int t = 0; t < count; t++) {
            take(x, 0, 0, 240);
            x.settle(t);
        }
        return x;
    }

    /** A PITCH is let to a GANG at a SHARE: the TAKE. */
    static int take(TributePitches x, int g, int p, int share) {
        x.auction(p, share);
        x.bid(g, share);
        return x.strike();
    }

    /** A SHEET gets a row of these cells. */
    static void row(TributePitches x, int k, int lane, int... cells) {
        x.sheet(k, lane, cells.length);
        for (int i = 0; i < cells.length; i++) x.put(k, i, cells[i]);
    }

    /**
     * Something of everything: SPANS and a LAW, three PITCHES (0 let, 1 was let, 2 at auction with a BID of
     * GANG 2), a GANG of each kind, GANG 1 with DEBT, PARCELS of which one is SUSPECT, SHEETS 0 .. 2 of each
     * LANE and SHEET 3 with nothing, a TRACE, and the FAULT 2.
     */
    static TributePitches busy() {
        TributePitches x = new TributePitches();
        x.rise(300);
        x.find(3, 2, 400, 500);
        x.pitch(2, 2, 3, 3, 10);
        x.pitch(0, 0, 0, 0, 1);
        x.pitch(7, 5, 7, 5, 100);
        for (int kind = 0; kind < 3; kind++) x.gang(kind);
        take(x, 1, 1, 200);
        x.parcel(0, 2, 30);
        x.spend(0, 1, 900);
        x.settle(0);
        take(x, 0, 0, 120);
        x.parcel(1, 50, 450);
        x.parcel(1, 5, 1000);
        x.spend(1, 0, 70);
        x.auction(2, 99);
        x.bid(0, 90);
        x.bid(2, 80);
        row(x, 0, 0, 5, -6, 7);
        row(x, 1, 1, 300, 1001);
        row(x, 2, 2, 70000);
        x.tell(2);
        x.as(0, 1);
        return x;
    }
}
