/** Promises 6 to 12: pitch, foretold, gang, auction, bid, strike, about. */
public final class PitchesTest {
    private static final int MIN = Integer.MIN_VALUE, MAX = Integer.MAX_VALUE;
    private static final Checks c = new Checks();

    public static void main(String[] args) {
        pitchesAreNumbered();
        pitchRefuses();
        pitchesMayTouchButNotMeet();
        pitchesAreTwelve();
        foretoldIsTonsTimesTheSum();
        foretoldIsLost();
        gangsAreEight();
        auctionBegins();
        auctionRefuses();
        bidsFall();
        bidRefusesInOrder();
        aGangHasThreePitches();
        bidsAreTwenty();
        strikeMakesATake();
        strikeWithoutABid();
        takesAreForty();
        aboutTells();
        c.close();
    }

    private static void pitchesAreNumbered() {
        TributePitches x = new TributePitches();
        c.due("pitch of one square", 0, x.pitch(7, 5, 7, 5, 1));
        c.due("pitch of a row", 1, x.pitch(0, 0, 7, 0, 100));
        c.due("pitch of a column", 2, x.pitch(0, 1, 0, 5, 50));
        c.due("told pitches", 3, x.told(0));
        c.due("pitch of all", 0, new TributePitches().pitch(0, 0, 7, 5, 1));
    }

    private static void pitchRefuses() {
        TributePitches x = new TributePitches();
        int[][] nowhere = {{-1, 0, 0, 0}, {0, -1, 0, 0}, {0, 0, 8, 0}, {0, 0, 0, 6}, {8, 0, 8, 0}, {0, 6, 0, 6},
            {0, 0, -1, 0}, {0, 0, 0, -1}, {MIN, 0, MAX, 0}, {0, MIN, 0, MAX}, {MAX, MAX, MIN, MIN}};
        for (int[] p : nowhere) {
            c.due("pitch nowhere", TributePitches.UNKNOWN, x.pitch(p[0], p[1], p[2], p[3], 1));
            c.due("pitch nowhere, outside", TributePitches.UNKNOWN, x.pitch(p[0], p[1], p[2], p[3], 0));
        }
        c.due("pitch with x above x2", TributePitches.OUTSIDE, x.pitch(1, 0, 0, 0, 1));
        c.due("pitch with y above y2", TributePitches.OUTSIDE, x.pitch(0, 1, 0, 0, 1));
        for (int tons : new int[] {0, 101, -1, MIN, MAX}) {
            c.due("pitch of other tons", TributePitches.OUTSIDE, x.pitch(0, 0, 0, 0, tons));
        }
        c.due("no pitch came of it", 0, x.told(0));
        x.pitch(0, 0, 1, 1, 1);
        c.due("pitch outside ahead of state", TributePitches.OUTSIDE, x.pitch(0, 0, 1, 1, 101));
        c.due("pitch state", TributePitches.STATE, x.pitch(0, 0, 1, 1, 1));
    }

    private static void pitchesMayTouchButNotMeet() {
        TributePitches x = new TributePitches();
        x.pitch(2, 2, 4, 3, 1);
        int[][] meeting = {{2, 2, 2, 2}, {4, 3, 4, 3}, {4, 2, 4, 2}, {2, 3, 2, 3}, {3, 0, 3, 5}, {0, 2, 7, 2},
            {0, 0, 2, 2}, {4, 3, 7, 5}, {0, 0, 7, 5}, {4, 0, 7, 2}, {0, 3, 2, 5}, {3, 2, 3, 3}};
        for (int[] p : meeting) {
            c.due("pitch that meets another", TributePitches.STATE, x.pitch(p[0], p[1], p[2], p[3], 1));
        }
        int[][] touching = {{0, 0, 7, 1}, {0, 4, 7, 5}, {1, 2, 1, 3}, {5, 2, 5, 3}};
        for (int i = 0; i < touching.length; i++) {
            int[] p = touching[i];
            c.due("pitch that touches another", i + 1, x.pitch(p[0], p[1], p[2], p[3], 1));
        }
        c.due("pitch that meets the latest", TributePitches.STATE, x.pitch(5, 3, 6, 3, 1));
    }

    private static void pitchesAreTwelve() {
        TributePitches x = new TributePitches();
        for (int i = 0; i < 12; i++) c.due("pitch " + i, i, x.pitch(i % 8, i / 8, i % 8, i / 8, 1));
        c.due("a thirteenth pitch", TributePitches.FULL, x.pitch(7, 5, 7, 5, 1));
        c.due("a thirteenth pitch on another", TributePitches.STATE, x.pitch(3, 1, 3, 1, 1));
        c.due("a thirteenth pitch outside", TributePitches.OUTSIDE, x.pitch(7, 5, 7, 5, 0));
        c.due("told pitches", 12, x.told(0));
        c.due("about a thirteenth pitch", TributePitches.UNKNOWN, x.about(12, 0));
        c.due("auction of a thirteenth pitch", TributePitches.UNKNOWN, x.auction(12, 1));
    }

    private static void foretoldIsTonsTimesTheSum() {
        TributePitches x = new TributePitches();
        x.find(1, 1, 10, 20);
        x.find(2, 1, 100, 200);
        x.find(1, 2, 1, 2);
        x.find(2, 2, 3, 4);
        x.find(3, 1, 500, 600);
        x.find(0, 1, 500, 600);
        x.pitch(1, 1, 2, 2, 7);
        c.due("foretold least", 7 * 114, x.foretold(0, 0));
        c.due("foretold greatest", 7 * 226, x.foretold(0, 1));
        x.find(2, 2, 4, 4);
        c.due("foretold least follows", 7 * 115, x.foretold(0, 0));
        TributePitches all = new TributePitches();
        all.pitch(0, 0, 7, 5, 100);
        c.due("foretold least of all", 0, all.foretold(0, 0));
        c.due("foretold greatest of all", 4800000, all.foretold(0, 1));
    }

    private static void foretoldIsLost() {
        TributePitches x = new TributePitches();
        c.due("foretold of none", TributePitches.LOST, x.foretold(0, 0));
        x.pitch(0, 0, 0, 0, 1);
        for (int p : new int[] {-1, 1, 12, MIN, MAX}) {
            c.due("foretold of no pitch", TributePitches.LOST, x.foretold(p, 0));
        }
        for (int which : new int[] {-1, 2, MIN, MAX}) {
            c.due("foretold outside", TributePitches.LOST, x.foretold(0, which));
        }
    }

    private static void gangsAreEight() {
        TributePitches x = new TributePitches();
        for (int kind : new int[] {-1, 3, MIN, MAX}) c.due("gang outside", TributePitches.OUTSIDE, x.gang(kind));
        for (int g = 0; g < 8; g++) c.due("gang " + g, g, x.gang(g % 3));
        c.due("a ninth gang", TributePitches.FULL, x.gang(0));
        c.due("a ninth gang outside", TributePitches.OUTSIDE, x.gang(3));
        c.due("debt of a ninth gang", TributePitches.LOST, x.debt(8));
        c.due("told gangs", 8, x.told(1));
    }

    private static void auctionBegins() {
        for (int share : new int[] {1, 240}) {
            TributePitches x = new TributePitches();
            x.pitch(0, 0, 0, 0, 1);
            x.pitch(1, 0, 1, 0, 1);
            c.due("auction", 1, x.auction(1, share));
            c.due("its bids", 0, x.told(5));
            c.due("its pitch", 1, x.told(6));
            c.due("what it began at", share, x.told(7));
        }
    }

    private static void auctionRefuses() {
        TributePitches x = new TributePitches();
        x.pitch(0, 0, 0, 0, 1);
        x.pitch(1, 0, 1, 0, 1);
        x.gang(0);
        for (int p : new int[] {-1, 2, MIN, MAX}) {
            c.due("auction of no pitch", TributePitches.UNKNOWN, x.auction(p, 5));
            c.due("auction of no pitch, outside", TributePitches.UNKNOWN, x.auction(p, 0));
        }
        for (int share : new int[] {0, 241, -1, MIN, MAX}) {
            c.due("auction outside", TributePitches.OUTSIDE, x.auction(0, share));
        }
        c.due("none goes on", TributePitches.NONE, x.told(5));
        x.auction(0, 5);
        c.due("auction beside another", TributePitches.STATE, x.auction(1, 6));
        c.due("auction beside itself", TributePitches.STATE, x.auction(0, 6));
        c.due("auction outside ahead of state", TributePitches.OUTSIDE, x.auction(1, 241));
        c.due("it goes on as it was", 5, x.told(7));
        x.bid(0, 5);
        x.strike();
        c.due("auction of a pitch that is let", TributePitches.STATE, x.auction(0, 5));
        c.due("auction of a pitch that is let, outside", TributePitches.OUTSIDE, x.auction(0, 0));
        c.due("auction of another", 1, x.auction(1, 5));
        x.strike();
        x.settle(0);
        c.due("auction of a pitch that was let", 1, x.auction(0, 5));
    }

    private static void bidsFall() {
        TributePitches x = new TributePitches();
        x.pitch(0, 0, 0, 0, 1);
        x.gang(0);
        x.gang(0);
        x.auction(0, 100);
        c.due("first bid above the beginning", TributePitches.OUTSIDE, x.bid(0, 101));
        c.due("first bid at the beginning", 1, x.bid(0, 100));
        c.due("bids told", 1, x.told(5));
        c.due("share told", 100, x.told(7));
        c.due("bid as high", TributePitches.OUTSIDE, x.bid(1, 100));
        c.due("bid 1 below", 2, x.bid(1, 99));
        c.due("bid far below", 3, x.bid(0, 2));
        c.due("bid at the bottom", 4, x.bid(1, 1));
        c.due("no bid is below 1", TributePitches.OUTSIDE, x.bid(0, 0));
        c.due("nor at it again", TributePitches.OUTSIDE, x.bid(0, 1));
        c.due("bids told", 4, x.told(5));
        c.due("share told", 1, x.told(7));
        for (int share : new int[] {-1, MIN, MAX}) {
            c.due("bid outside", TributePitches.OUTSIDE, x.bid(0, share));
        }
        x.strike();
        x.settle(0);
        x.auction(0, 50);
        c.due("the latest of another auction may bid", 1, x.bid(1, 50));
    }

    private static void bidRefusesInOrder() {
        TributePitches x = new TributePitches();
        x.pitch(0, 0, 0, 0, 1);
        c.due("bid of no gang without an auction", TributePitches.UNKNOWN, x.bid(0, 5));
        x.gang(0);
        x.gang(1);
        for (int g : new int[] {-1, 2, MIN, MAX}) {
            c.due("bid of no gang", TributePitches.UNKNOWN, x.bid(g, 5));
        }
        c.due("bid without an auction", TributePitches.STATE, x.bid(0, 5));
        c.due("bid without an auction, outside", TributePitches.STATE, x.bid(0, 0));
        x.auction(0, 10);
        c.due("bid of no gang, outside", TributePitches.UNKNOWN, x.bid(2, 0));
        x.bid(0, 9);
        c.due("bid of the one ahead, outside", TributePitches.OUTSIDE, x.bid(0, 9));
        c.due("bid of the one ahead", TributePitches.STATE, x.bid(0, 8));
        c.due("nothing changed", 9, x.told(7));
        c.due("nothing changed", 1, x.told(5));
        c.due("bid of another", 2, x.bid(1, 8));
        c.due("bid of the first again", 3, x.bid(0, 7));
    }

    private static void aGangHasThreePitches() {
        TributePitches x = new TributePitches();
        x.gang(0);
        x.gang(0);
        for (int p = 0; p < 5; p++) x.pitch(p, 0, p, 0, 1);
        for (int p = 0; p < 3; p++) {
            x.auction(p, 240);
            c.due("bid with " + p + " pitches", 1, x.bid(0, 240));
            c.due("strike", p, x.strike());
        }
        x.auction(3, 240);
        c.due("bid with three pitches", TributePitches.STATE, x.bid(0, 240));
        c.due("bid with three pitches, outside", TributePitches.OUTSIDE, x.bid(0, 241));
        c.due("bid of another", 1, x.bid(1, 240));
        c.due("strike to another", 3, x.strike());
        x.settle(1);
        x.auction(4, 240);
        c.due("bid with two again", 1, x.bid(0, 240));
        x.strike();
        x.auction(1, 240);
        c.due("bid with three again", TributePitches.STATE, x.bid(0, 240));
    }

    private static void bidsAreTwenty() {
        TributePitches x = new TributePitches();
        x.pitch(0, 0, 0, 0, 1);
        x.gang(0);
        x.gang(0);
        x.auction(0, 240);
        for (int b = 0; b < 20; b++) c.due("bid " + b, b + 1, x.bid(b % 2, 240 - b));
        c.due("a twenty-first bid", TributePitches.FULL, x.bid(0, 100));
        c.due("a twenty-first bid of the one ahead", TributePitches.STATE, x.bid(1, 100));
        c.due("a twenty-first bid outside", TributePitches.OUTSIDE, x.bid(0, 221));
        c.due("bids told", 20, x.told(5));
        c.due("share told", 221, x.told(7));
        c.due("strike", 0, x.strike());
        c.due("to the one that bid last", 1, x.taken(0, 0));
        c.due("at the latest share", 221, x.taken(0, 2));
        x.settle(0);
        x.auction(0, 240);
        c.due("another auction begins with none", 1, x.bid(0, 3));
    }

    private static void strikeMakesATake() {
        TributePitches x = new TributePitches();
        c.due("strike without an auction", TributePitches.STATE, x.strike());
        x.pitch(0, 0, 0, 0, 1);
        x.pitch(1, 0, 2, 0, 3);
        x.find(1, 0, 5, 10);
        x.gang(0);
        x.gang(1);
        x.auction(1, 200);
        x.bid(0, 180);
        x.bid(1, 170);
        c.due("strike", 0, x.strike());
        c.due("told takes", 1, x.told(2));
        c.due("its gang", 1, x.taken(0, 0));
        c.due("its pitch", 1, x.taken(0, 1));
        c.due("its share", 170, x.taken(0, 2));
        c.due("least when struck", 15, x.money(0, 4));
        c.due("greatest when struck", 3030, x.money(0, 5));
        c.due("no auction then", TributePitches.NONE, x.told(5));
        c.due("no auction then", TributePitches.NONE, x.told(6));
        c.due("no auction then", TributePitches.NONE, x.told(7));
        c.due("strike again", TributePitches.STATE, x.strike());
        c.due("bid then", TributePitches.STATE, x.bid(0, 1));
        x.find(1, 0, 6, 9);
        c.due("least when struck stays", 15, x.money(0, 4));
        c.due("greatest when struck stays", 3030, x.money(0, 5));
    }

    private static void strikeWithoutABid() {
        TributePitches x = new TributePitches();
        x.pitch(0, 0, 0, 0, 1);
        x.auction(0, 9);
        c.due("strike with no bid", TributePitches.NONE, x.strike());
        c.due("no auction then", TributePitches.NONE, x.told(6));
        c.due("strike again", TributePitches.STATE, x.strike());
        c.due("no take", 0, x.told(2));
        c.due("the pitch stays unlet", TributePitches.NONE, x.about(0, 5));
        c.due("the pitch had none", 0, x.about(0, 6));
        c.due("it can be let again", 1, x.auction(0, 9));
    }

    private static void takesAreForty() {
        TributePitches x = new TributePitches();
        x.gang(0);
        x.pitch(0, 0, 0, 0, 1);
        for (int t = 0; t < 40; t++) {
            x.auction(0, 240);
            x.bid(0, 240);
            c.due("strike " + t, t, x.strike());
            x.settle(t);
        }
        c.due("told takes", 40, x.told(2));
        c.due("taken of a forty-first", TributePitches.UNKNOWN, x.taken(40, 0));
        c.due("settle a forty-first", TributePitches.LOST, x.settle(40));
        c.due("takes of the pitch", 40, x.about(0, 6));
        x.auction(0, 240);
        c.due("strike with no bid and no room", TributePitches.NONE, x.strike());
        x.auction(0, 240);
        x.bid(0, 200);
        c.due("strike with no room", TributePitches.FULL, x.strike());
        c.due("the auction goes on: bids", 1, x.told(5));
        c.due("the auction goes on: pitch", 0, x.told(6));
        c.due("the auction goes on: share", 200, x.told(7));
        c.due("strike with no room again", TributePitches.FULL, x.strike());
        c.due("the pitch is unlet", TributePitches.NONE, x.about(0, 5));
        c.due("takes of the pitch", 40, x.about(0, 6));
    }

    private static void aboutTells() {
        TributePitches x = new TributePitches();
        x.pitch(0, 0, 0, 0, 1);
        x.pitch(2, 3, 5, 4, 77);
        x.gang(0);
        int[] want = {2, 3, 5, 4, 77, TributePitches.NONE, 0};
        for (int what = 0; what < 7; what++) c.due("about " + what, want[what], x.about(1, what));
        take(x, 0, 0);
        take(x, 1, 1);
        c.due("about its take", 1, x.about(1, 5));
        c.due("about how many", 1, x.about(1, 6));
        x.settle(1);
        c.due("about its take, settled", TributePitches.NONE, x.about(1, 5));
        c.due("about how many, settled", 1, x.about(1, 6));
        take(x, 1, 2);
        c.due("about its next take", 2, x.about(1, 5));
        c.due("about how many", 2, x.about(1, 6));
        c.due("about the other", 1, x.about(0, 6));
        for (int p : new int[] {-1, 2, MIN, MAX}) {
            c.due("about no pitch", TributePitches.UNKNOWN, x.about(p, 0));
            c.due("about no pitch, outside", TributePitches.UNKNOWN, x.about(p, 7));
        }
        for (int what : new int[] {-1, 7, MIN, MAX}) {
            c.due("about outside", TributePitches.OUTSIDE, x.about(0, what));
        }
    }

    private static void take(TributePitches x, int p, int t) {
        x.auction(p, 240);
        x.bid(0, 240);
        c.due("strike", t, x.strike());
    }
}
