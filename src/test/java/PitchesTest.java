/** Promises 6 to 12, what is asked for every day: pitch, foretold, gang, auction, bid, strike, about. */
public final class PitchesTest {
    private static final Checks c = new Checks();

    public static void main(String[] args) {
        pitchesAreNumbered();
        foretoldIsTonsTimesTheSum();
        gangsAreNumbered();
        auctionBegins();
        bidsAreTaken();
        strikeMakesATake();
        aboutTells();
        c.close();
    }

    private static void pitchesAreNumbered() {
        TributePitches x = new TributePitches();
        c.due("pitch of one square", 0, x.pitch(7, 5, 7, 5, 1));
        c.due("pitch of a row", 1, x.pitch(0, 0, 7, 0, 100));
        c.due("pitch of a column", 2, x.pitch(0, 1, 0, 5, 50));
        c.due("told pitches", 3, x.told(0));
        c.due("pitch of all", 0, new TributePitches().pitch(0, 0, 7, 5, 1));
    }

    private static void foretoldIsTonsTimesTheSum() {
        TributePitches x = new TributePitches();
        x.find(1, 1, 10, 20);
        x.find(2, 1, 100, 200);
        x.find(1, 2, 1, 2);
        x.find(2, 2, 3, 4);
        x.find(3, 1, 500, 600);
        x.find(0, 1, 500, 600);
        x.pitch(1, 1, 2, 2, 7);
        c.due("foretold least", 7 * 114, x.foretold(0, 0));
        c.due("foretold greatest", 7 * 226, x.foretold(0, 1));
        x.find(2, 2, 4, 4);
        c.due("foretold least follows", 7 * 115, x.foretold(0, 0));
        TributePitches all = new TributePitches();
        all.pitch(0, 0, 7, 5, 100);
        c.due("foretold least of all", 0, all.foretold(0, 0));
        c.due("foretold greatest of all", 4800000, all.foretold(0, 1));
    }

    private static void gangsAreNumbered() {
        TributePitches x = new TributePitches();
        for (int g = 0; g < 3; g++) c.due("gang of kind " + (2 - g), g, x.gang(2 - g));
        c.due("told gangs", 3, x.told(1));
    }

    private static void bidsAreTaken() {
        TributePitches x = Mines.small(0);
        x.gang(1);
        x.auction(0, 100);
        c.due("a bid", 1, x.bid(0, 90));
        c.due("another", 2, x.bid(1, 75));
        c.due("and another", 3, x.bid(0, 74));
        c.due("told bids", 3, x.told(5));
        c.due("told the latest", 74, x.told(7));
    }

    private static void auctionBegins() {
        for (int share : new int[] {1, 240}) {
            TributePitches x = new TributePitches();
            x.pitch(0, 0, 0, 0, 1);
            x.pitch(1, 0, 1, 0, 1);
            c.due("auction", 1, x.auction(1, share));
            c.due("its bids", 0, x.told(5));
            c.due("its pitch", 1, x.told(6));
            c.due("what it began at", share, x.told(7));
        }
    }

    private static void strikeMakesATake() {
        TributePitches x = new TributePitches();
        c.due("strike without an auction", TributePitches.STATE, x.strike());
        x.pitch(0, 0, 0, 0, 1);
        x.pitch(1, 0, 2, 0, 3);
        x.find(1, 0, 5, 10);
        x.gang(0);
        x.gang(1);
        x.auction(1, 200);
        x.bid(0, 180);
        x.bid(1, 170);
        c.due("strike", 0, x.strike());
        c.due("told takes", 1, x.told(2));
        c.due("its gang", 1, x.taken(0, 0));
        c.due("its pitch", 1, x.taken(0, 1));
        c.due("its share", 170, x.taken(0, 2));
        c.due("least when struck", 15, x.money(0, 4));
        c.due("greatest when struck", 3030, x.money(0, 5));
        c.due("no auction then", TributePitches.NONE, x.told(5));
        c.due("no auction then", TributePitches.NONE, x.told(6));
        c.due("no auction then", TributePitches.NONE, x.told(7));
        c.due("strike again", TributePitches.STATE, x.strike());
        c.due("bid then", TributePitches.STATE, x.bid(0, 1));
        x.find(1, 0, 6, 9);
        c.due("least when struck stays", 15, x.money(0, 4));
        c.due("greatest when struck stays", 3030, x.money(0, 5));
    }

    private static void aboutTells() {
        TributePitches x = new TributePitches();
        x.pitch(0, 0, 0, 0, 1);
        x.pitch(2, 3, 5, 4, 77);
        x.gang(0);
        int[] want = {2, 3, 5, 4, 77, TributePitches.NONE, 0};
        for (int what = 0; what < 7; what++) c.due("about " + what, want[what], x.about(1, what));
        c.due("strike", 0, Mines.take(x, 0, 0, 240));
        c.due("strike", 1, Mines.take(x, 0, 1, 240));
        c.due("about its take", 1, x.about(1, 5));
        c.due("about how many", 1, x.about(1, 6));
        x.settle(1);
        c.due("about its take, settled", TributePitches.NONE, x.about(1, 5));
        c.due("about how many, settled", 1, x.about(1, 6));
        c.due("strike", 2, Mines.take(x, 0, 1, 240));
        c.due("about its next take", 2, x.about(1, 5));
        c.due("about how many", 2, x.about(1, 6));
        c.due("about the other", 1, x.about(0, 6));
    }
}
