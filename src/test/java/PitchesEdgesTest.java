/** The edges that the document names in part 2 of its terms and in promises 6 to 12. */
public final class PitchesEdgesTest {
    private static final int MIN = Edges.MIN, MAX = Edges.MAX;

    public static void main(String[] args) {
        Edges e = new Edges();
        e.term("PITCHES, 12 ever", PitchesEdgesTest::pitchesAreTwelve);
        e.term("with TONS for each SQUARE (1 .. 100)", PitchesEdgesTest::pitchOfOtherTons);
        e.term("TONS times the sum of its SQUARES' lows, of their highs", PitchesEdgesTest::foretoldFromLeastToMost);
        e.term("GANGS, 8 ever", PitchesEdgesTest::gangsAreEight);
        e.term("of a kind: 0 GANG; 1 FAMILY, a GANG; 2 OLD HANDS, a FAMILY", PitchesEdgesTest::gangOfNoKind);
        e.term("AN AUCTION of a PITCH that is not let", PitchesEdgesTest::auctionOfALetPitch);
        e.term("it begins at a SHARE (1 .. 240", PitchesEdgesTest::auctionAtOtherShares);
        e.term("each BID is below the one ahead", PitchesEdgesTest::bidsFall);
        e.term("(the first one at most the beginning)", PitchesEdgesTest::firstBidIsAtMostTheBeginning);
        e.term("by a GANG that did not make the one ahead", PitchesEdgesTest::noGangBidsTwiceRunning);
        e.term("it is struck to the one that BID last", PitchesEdgesTest::struckToTheLast);
        e.term("(none: the PITCH stays unlet)", PitchesEdgesTest::struckToNone);
        e.term("A GANG that has three PITCHES let to it may not BID", PitchesEdgesTest::threePitchesAreEnough);
        e.term("A TAKE, 40 ever", PitchesEdgesTest::takesAreForty);
        e.term("from when it is struck till it is settled", PitchesEdgesTest::letFromStruckTillSettled);

        e.promise(6, "UNKNOWN: SQUARES", PitchesEdgesTest::pitchOfNoSquares);
        e.promise(6, "OUTSIDE: x is above x2", PitchesEdgesTest::pitchFromRightToLeft);
        e.promise(6, "y above y2", PitchesEdgesTest::pitchFromBottomToTop);
        e.promise(6, "tons; STATE", PitchesEdgesTest::pitchOfOtherTons);
        e.promise(6, "STATE: one of its SQUARES is in another PITCH", PitchesEdgesTest::pitchOverAnother);
        e.promise(6, "FULL", PitchesEdgesTest::pitchesAreTwelve);
        e.promise(6, "UNKNOWN: SQUARES; OUTSIDE: x is above x2, y above y2, tons; STATE: one of its SQUARES is in "
            + "another PITCH; FULL", PitchesEdgesTest::pitchRefusesInOrder);

        e.promise(7, "LOST: UNKNOWN", PitchesEdgesTest::foretoldOfNoPitch);
        e.promise(7, "OUTSIDE", PitchesEdgesTest::foretoldOfAnotherEnd);

        e.promise(8, "OUTSIDE", PitchesEdgesTest::gangOfNoKind);
        e.promise(8, "FULL", PitchesEdgesTest::gangsAreEight);
        e.promise(8, "OUTSIDE; FULL", PitchesEdgesTest::gangRefusesInOrder);

        e.promise(9, "UNKNOWN", PitchesEdgesTest::auctionOfNoPitch);
        e.promise(9, "OUTSIDE: share", PitchesEdgesTest::auctionAtOtherShares);
        e.promise(9, "STATE: the PITCH is let", PitchesEdgesTest::auctionOfALetPitch);
        e.promise(9, "there is one", PitchesEdgesTest::auctionBesideAnother);
        e.promise(9, "UNKNOWN; OUTSIDE: share; STATE", PitchesEdgesTest::auctionRefusesInOrder);

        e.promise(10, "how many there were", PitchesEdgesTest::bidsAreCounted);
        e.promise(10, "UNKNOWN: GANG", PitchesEdgesTest::bidOfNoGang);
        e.promise(10, "STATE: no AUCTION", PitchesEdgesTest::bidWithoutAnAuction);
        e.promise(10, "OUTSIDE: share is not 1 .. what it may be", PitchesEdgesTest::bidAtOtherShares);
        e.promise(10, "STATE: it made the one ahead", PitchesEdgesTest::noGangBidsTwiceRunning);
        e.promise(10, "it has three PITCHES", PitchesEdgesTest::threePitchesAreEnough);
        e.promise(10, "FULL: 20", PitchesEdgesTest::bidsAreTwenty);
        e.promise(10, "UNKNOWN: GANG; STATE: no AUCTION; OUTSIDE: share is not 1 .. what it may be; STATE: it made "
            + "the one ahead, it has three PITCHES; FULL: 20", PitchesEdgesTest::bidRefusesInOrder);

        e.promise(11, "NONE: none BID (AN AUCTION is over, too)", PitchesEdgesTest::struckToNone);
        e.promise(11, "STATE: no AUCTION", PitchesEdgesTest::strikeWithoutAnAuction);
        e.promise(11, "FULL (it goes on)", PitchesEdgesTest::auctionGoesOnWhenTakesAreFull);

        e.promise(12, "5 its TAKE that is not SETTLED (NONE)", PitchesEdgesTest::letFromStruckTillSettled);
        e.promise(12, "6 how many TAKES it had", PitchesEdgesTest::takesOfAPitchAreCounted);
        e.promise(12, "UNKNOWN", PitchesEdgesTest::aboutNoPitch);
        e.promise(12, "OUTSIDE", PitchesEdgesTest::aboutSomethingElse);
        e.promise(12, "UNKNOWN; OUTSIDE", PitchesEdgesTest::aboutRefusesInOrder);
        e.close(6, 12);
    }

    // ---- promise 6

    private static void pitchesAreTwelve(Checks c) {
        TributePitches x = new TributePitches();
        for (int p = 0; p < 12; p++) c.due("pitch " + p, p, x.pitch(p % 8, p / 8, p % 8, p / 8, 1));
        c.due("about the twelfth", 3, x.about(11, 0));
        Seen.unchanged(c, () -> Mines.pitches(12), "a thirteenth", TributePitches.FULL, z -> z.pitch(7, 5, 7, 5, 1));
        c.due("a thirteenth, twice", TributePitches.FULL, x.pitch(7, 5, 7, 5, 1));
        c.due("a thirteenth, twice", TributePitches.FULL, x.pitch(7, 5, 7, 5, 1));
        c.due("told", 12, x.told(0));
        c.due("about a thirteenth", TributePitches.UNKNOWN, x.about(12, 0));
    }

    private static void pitchOfOtherTons(Checks c) {
        for (int tons : new int[] {0, 101, -1, MIN, MAX}) {
            Seen.unchanged(c, TributePitches::new, "pitch of " + tons, TributePitches.OUTSIDE,
                x -> x.pitch(0, 0, 0, 0, tons));
        }
        for (int tons : new int[] {1, 100}) {
            TributePitches x = new TributePitches();
            c.due("pitch of " + tons, 0, x.pitch(0, 0, 0, 0, tons));
            c.due("its tons", tons, x.about(0, 4));
        }
    }

    private static void pitchOfNoSquares(Checks c) {
        int[][] nowhere = {{-1, 0, 0, 0}, {0, -1, 0, 0}, {0, 0, 8, 0}, {0, 0, 0, 6}, {8, 0, 8, 0}, {0, 6, 0, 6},
            {0, 0, -1, 0}, {0, 0, 0, -1}, {8, 0, 7, 0}, {0, 6, 0, 5}, {-1, -1, 8, 6}, {MIN, 0, 0, 0}, {0, MIN, 0, 0},
            {0, 0, MAX, 0}, {0, 0, 0, MAX}, {MIN, MIN, MAX, MAX}, {MAX, MAX, MIN, MIN}};
        for (int[] p : nowhere) {
            Seen.unchanged(c, TributePitches::new, "pitch of no squares", TributePitches.UNKNOWN,
                x -> x.pitch(p[0], p[1], p[2], p[3], 1));
        }
        TributePitches x = new TributePitches();
        c.due("the first square", 0, x.pitch(0, 0, 0, 0, 1));
        c.due("the last square", 1, x.pitch(7, 5, 7, 5, 1));
    }

    private static void pitchFromRightToLeft(Checks c) {
        for (int[] p : new int[][] {{1, 0, 0, 0}, {7, 0, 0, 5}, {4, 4, 3, 4}}) {
            Seen.unchanged(c, TributePitches::new, "x above x2", TributePitches.OUTSIDE,
                x -> x.pitch(p[0], p[1], p[2], p[3], 1));
        }
        c.due("x at x2", 0, new TributePitches().pitch(4, 0, 4, 5, 1));
    }

    private static void pitchFromBottomToTop(Checks c) {
        for (int[] p : new int[][] {{0, 1, 0, 0}, {0, 5, 7, 0}, {4, 4, 4, 3}}) {
            Seen.unchanged(c, TributePitches::new, "y above y2", TributePitches.OUTSIDE,
                x -> x.pitch(p[0], p[1], p[2], p[3], 1));
        }
        c.due("y at y2", 0, new TributePitches().pitch(0, 4, 7, 4, 1));
    }

    private static void pitchOverAnother(Checks c) {
        int[][] over = {{2, 2, 2, 2}, {4, 3, 4, 3}, {4, 2, 4, 2}, {2, 3, 2, 3}, {3, 0, 3, 5}, {0, 2, 7, 2},
            {0, 0, 2, 2}, {4, 3, 7, 5}, {0, 0, 7, 5}, {4, 0, 7, 2}, {0, 3, 2, 5}, {3, 2, 3, 3}};
        for (int[] p : over) {
            Seen.unchanged(c, PitchesEdgesTest::onePitch, "pitch over another", TributePitches.STATE,
                x -> x.pitch(p[0], p[1], p[2], p[3], 1));
        }
        TributePitches x = onePitch();
        int[][] beside = {{0, 0, 7, 1}, {0, 4, 7, 5}, {0, 2, 1, 3}, {5, 2, 7, 3}};
        for (int i = 0; i < 4; i++) {
            int[] p = beside[i];
            c.due("pitch beside another", i + 1, x.pitch(p[0], p[1], p[2], p[3], 1));
        }
        c.due("pitch over the latest", TributePitches.STATE, x.pitch(7, 3, 7, 3, 1));
        c.due("pitch over the first", TributePitches.STATE, x.pitch(3, 3, 3, 3, 1));
    }

    /** Its SQUARES are (2, 2) to (4, 3). */
    private static TributePitches onePitch() {
        TributePitches x = new TributePitches();
        x.pitch(2, 2, 4, 3, 1);
        return x;
    }

    private static void pitchRefusesInOrder(Checks c) {
        c.due("no squares ahead of tons", TributePitches.UNKNOWN, new TributePitches().pitch(0, 0, 8, 0, 0));
        c.due("no squares ahead of x above x2", TributePitches.UNKNOWN, new TributePitches().pitch(8, 0, 0, 0, 1));
        c.due("no squares ahead of y above y2", TributePitches.UNKNOWN, new TributePitches().pitch(0, 0, 0, -1, 1));
        c.due("no squares ahead of another pitch", TributePitches.UNKNOWN, onePitch().pitch(2, 2, 8, 3, 1));
        c.due("tons ahead of another pitch", TributePitches.OUTSIDE, onePitch().pitch(2, 2, 4, 3, 101));
        c.due("x above x2 ahead of another pitch", TributePitches.OUTSIDE, onePitch().pitch(3, 2, 2, 2, 1));
        c.due("y above y2 ahead of another pitch", TributePitches.OUTSIDE, onePitch().pitch(3, 3, 3, 2, 1));
        TributePitches x = Mines.pitches(12);
        c.due("no squares ahead of full", TributePitches.UNKNOWN, x.pitch(0, 6, 0, 6, 1));
        c.due("tons ahead of full", TributePitches.OUTSIDE, x.pitch(7, 5, 7, 5, 0));
        c.due("another pitch ahead of full", TributePitches.STATE, x.pitch(3, 1, 3, 1, 1));
    }

    // ---- promise 7

    private static void foretoldFromLeastToMost(Checks c) {
        TributePitches x = new TributePitches();
        x.pitch(0, 0, 7, 5, 100);
        c.due("least of all", 0, x.foretold(0, 0));
        c.due("greatest of all", 4800000, x.foretold(0, 1));
        TributePitches z = new TributePitches();
        z.pitch(7, 5, 7, 5, 1);
        z.find(7, 5, 0, 0);
        c.due("least of a worthless square", 0, z.foretold(0, 0));
        c.due("greatest of a worthless square", 0, z.foretold(0, 1));
        TributePitches w = onePitch();
        w.find(1, 2, 9, 9);
        w.find(5, 2, 9, 9);
        w.find(2, 1, 9, 9);
        w.find(2, 4, 9, 9);
        c.due("squares beside it are no matter", 0, w.foretold(0, 0));
        c.due("squares beside it are no matter", 6000, w.foretold(0, 1));
        w.find(2, 2, 10, 20);
        w.find(4, 3, 100, 200);
        c.due("its corners are", 110, w.foretold(0, 0));
        c.due("its corners are", 4220, w.foretold(0, 1));
    }

    private static void foretoldOfNoPitch(Checks c) {
        c.due("of none", TributePitches.LOST, new TributePitches().foretold(0, 0));
        TributePitches x = Mines.pitches(2);
        for (int p : new int[] {-1, 2, 12, MIN, MAX}) {
            c.due("least of pitch " + p, TributePitches.LOST, x.foretold(p, 0));
            c.due("greatest of pitch " + p, TributePitches.LOST, x.foretold(p, 1));
        }
        c.due("of the last", 1000, x.foretold(1, 1));
        c.due("of a thirteenth", TributePitches.LOST, Mines.pitches(12).foretold(12, 0));
    }

    private static void foretoldOfAnotherEnd(Checks c) {
        TributePitches x = Mines.pitches(1);
        for (int which : new int[] {-1, 2, MIN, MAX}) {
            c.due("foretold " + which, TributePitches.LOST, x.foretold(0, which));
        }
    }

    // ---- promise 8

    private static void gangsAreEight(Checks c) {
        TributePitches x = new TributePitches();
        for (int g = 0; g < 8; g++) c.due("gang " + g, g, x.gang(g % 3));
        for (int kind = 0; kind < 3; kind++) c.due("a ninth", TributePitches.FULL, x.gang(kind));
        Seen.unchanged(c, PitchesEdgesTest::eightGangs, "a ninth", TributePitches.FULL, z -> z.gang(1));
        c.due("told", 8, x.told(1));
        c.due("debt of the eighth", 0, x.debt(7));
        c.due("debt of a ninth", TributePitches.LOST, x.debt(8));
    }

    private static TributePitches eightGangs() {
        TributePitches x = new TributePitches();
        for (int g = 0; g < 8; g++) x.gang(0);
        return x;
    }

    private static void gangOfNoKind(Checks c) {
        for (int kind : new int[] {-1, 3, MIN, MAX}) {
            Seen.unchanged(c, TributePitches::new, "gang of kind " + kind, TributePitches.OUTSIDE, x -> x.gang(kind));
        }
        TributePitches x = new TributePitches();
        for (int kind = 0; kind < 3; kind++) c.due("gang of kind " + kind, kind, x.gang(kind));
        for (int g = 0; g < 3; g++) {
            for (int kind = 0; kind < 3; kind++) c.due(g + " as " + kind, kind <= g ? 1 : -12, x.as(g, kind));
        }
    }

    private static void gangRefusesInOrder(Checks c) {
        c.due("no kind ahead of full", TributePitches.OUTSIDE, eightGangs().gang(3));
        c.due("no kind ahead of full", TributePitches.OUTSIDE, eightGangs().gang(-1));
    }

    // ---- promise 9

    private static void auctionOfNoPitch(Checks c) {
        c.due("of none", TributePitches.UNKNOWN, new TributePitches().auction(0, 1));
        for (int p : new int[] {-1, 2, 12, MIN, MAX}) {
            Seen.unchanged(c, () -> Mines.pitches(2), "auction of pitch " + p, TributePitches.UNKNOWN,
                x -> x.auction(p, 1));
        }
        c.due("of a thirteenth", TributePitches.UNKNOWN, Mines.pitches(12).auction(12, 1));
        c.due("of the twelfth", 1, Mines.pitches(12).auction(11, 1));
    }

    private static void auctionAtOtherShares(Checks c) {
        for (int share : new int[] {0, 241, -1, MIN, MAX}) {
            Seen.unchanged(c, () -> Mines.pitches(1), "auction at " + share, TributePitches.OUTSIDE,
                x -> x.auction(0, share));
        }
        for (int share : new int[] {1, 240}) {
            TributePitches x = Mines.pitches(1);
            c.due("auction at " + share, 1, x.auction(0, share));
            c.due("what it began at", share, x.told(7));
        }
    }

    private static void auctionOfALetPitch(Checks c) {
        Seen.unchanged(c, () -> Mines.let(0, 240), "auction of what is let", TributePitches.STATE,
            x -> x.auction(0, 240));
        TributePitches x = Mines.let(0, 240);
        x.pitch(1, 0, 1, 0, 1);
        c.due("auction of another", 1, x.auction(1, 240));
        x.strike();
        x.settle(0);
        c.due("auction of what was let", 1, x.auction(0, 240));
    }

    private static void auctionBesideAnother(Checks c) {
        Seen.unchanged(c, PitchesEdgesTest::atAuction, "auction of another pitch", TributePitches.STATE,
            x -> x.auction(1, 240));
        Seen.unchanged(c, PitchesEdgesTest::atAuction, "auction of the same pitch", TributePitches.STATE,
            x -> x.auction(0, 240));
        TributePitches x = atAuction();
        x.strike();
        c.due("auction after it", 1, x.auction(1, 240));
    }

    /** Two PITCHES and three GANGS; PITCH 0 is at auction from 100 on, with no BID. */
    private static TributePitches atAuction() {
        TributePitches x = Mines.pitches(2);
        for (int kind = 0; kind < 3; kind++) x.gang(kind);
        x.auction(0, 100);
        return x;
    }

    private static void auctionRefusesInOrder(Checks c) {
        c.due("no pitch ahead of share", TributePitches.UNKNOWN, Mines.pitches(1).auction(1, 0));
        c.due("no pitch ahead of another auction", TributePitches.UNKNOWN, atAuction().auction(2, 100));
        c.due("share ahead of another auction", TributePitches.OUTSIDE, atAuction().auction(1, 241));
        c.due("share ahead of a let pitch", TributePitches.OUTSIDE, Mines.let(0, 240).auction(0, 0));
    }

    // ---- promise 10

    private static void bidsFall(Checks c) {
        TributePitches x = atAuction();
        x.bid(0, 90);
        c.due("as high as the one ahead", TributePitches.OUTSIDE, x.bid(1, 90));
        c.due("above the one ahead", TributePitches.OUTSIDE, x.bid(1, 91));
        c.due("at the beginning", TributePitches.OUTSIDE, x.bid(1, 100));
        c.due("still the one ahead", 90, x.told(7));
        c.due("1 below the one ahead", 2, x.bid(1, 89));
        c.due("as high as the one before", TributePitches.OUTSIDE, x.bid(0, 89));
        c.due("far below", 3, x.bid(0, 2));
        c.due("at the bottom", 4, x.bid(1, 1));
        c.due("at the bottom again", TributePitches.OUTSIDE, x.bid(0, 1));
        c.due("below the bottom", TributePitches.OUTSIDE, x.bid(0, 0));
    }

    private static void firstBidIsAtMostTheBeginning(Checks c) {
        Seen.unchanged(c, PitchesEdgesTest::atAuction, "1 above the beginning", TributePitches.OUTSIDE,
            x -> x.bid(0, 101));
        TributePitches x = atAuction();
        c.due("at the beginning", 1, x.bid(0, 100));
        c.due("at it again", TributePitches.OUTSIDE, x.bid(1, 100));
        TributePitches z = Mines.small(0);
        z.auction(0, 1);
        c.due("at a beginning of 1", 1, z.bid(0, 1));
        TributePitches w = Mines.small(0);
        w.auction(0, 240);
        c.due("above a beginning of 240", TributePitches.OUTSIDE, w.bid(0, 241));
        c.due("at a beginning of 240", 1, w.bid(0, 240));
    }

    private static void noGangBidsTwiceRunning(Checks c) {
        Seen.unchanged(c, PitchesEdgesTest::withABid, "again", TributePitches.STATE, x -> x.bid(0, 89));
        TributePitches x = withABid();
        c.due("another", 2, x.bid(1, 89));
        c.due("another, again", TributePitches.STATE, x.bid(1, 88));
        c.due("the first, after another", 3, x.bid(0, 88));
        x.strike();
        x.auction(1, 100);
        c.due("the one that BID last in another auction", 1, x.bid(0, 100));
        TributePitches z = withABid();
        c.due("one that was refused has not BID", TributePitches.STATE, z.bid(0, 1));
        c.due("so that another may", 2, z.bid(2, 89));
    }

    /** At auction, with a BID of GANG 0 at 90. */
    private static TributePitches withABid() {
        TributePitches x = atAuction();
        x.bid(0, 90);
        return x;
    }

    private static void threePitchesAreEnough(Checks c) {
        for (int count = 0; count < 3; count++) {
            c.due("bid with " + count + " let", 1, withPitchesLet(count).bid(0, 240));
        }
        Seen.unchanged(c, () -> withPitchesLet(3), "bid with three let", TributePitches.STATE, x -> x.bid(0, 240));
        TributePitches x = withPitchesLet(3);
        c.due("another gang", 1, x.bid(1, 240));
        c.due("between others", TributePitches.STATE, x.bid(0, 239));
        x.settle(1);
        c.due("with two again, in the same auction", 2, x.bid(0, 239));
        x.strike();
        x.auction(1, 240);
        c.due("with three again", TributePitches.STATE, x.bid(0, 240));
    }

    /** Two GANGS; so many PITCHES are let to GANG 0, and one more is at auction from 240 on. */
    private static TributePitches withPitchesLet(int count) {
        TributePitches x = Mines.pitches(5);
        x.gang(0);
        x.gang(0);
        for (int p = 0; p < count; p++) Mines.take(x, 0, p, 240);
        x.auction(4, 240);
        return x;
    }

    private static void bidsAreCounted(Checks c) {
        TributePitches x = atAuction();
        c.due("none", 0, x.told(5));
        for (int b = 1; b <= 20; b++) {
            c.due("bid " + b, b, x.bid(b % 2, 100 - b));
            c.due("told", b, x.told(5));
        }
        x.strike();
        x.auction(1, 50);
        c.due("none of the next", 0, x.told(5));
        c.due("the first of the next", 1, x.bid(0, 50));
    }

    private static void bidOfNoGang(Checks c) {
        for (int g : new int[] {-1, 3, 8, MIN, MAX}) {
            Seen.unchanged(c, PitchesEdgesTest::atAuction, "bid of gang " + g, TributePitches.UNKNOWN,
                x -> x.bid(g, 50));
        }
        c.due("the last gang", 1, atAuction().bid(2, 50));
    }

    private static void bidWithoutAnAuction(Checks c) {
        Seen.unchanged(c, () -> Mines.small(0), "bid ahead of any", TributePitches.STATE, x -> x.bid(0, 1));
        TributePitches x = withABid();
        x.strike();
        c.due("bid after one", TributePitches.STATE, x.bid(1, 1));
        TributePitches z = atAuction();
        z.strike();
        c.due("bid after one without a bid", TributePitches.STATE, z.bid(1, 1));
    }

    private static void bidAtOtherShares(Checks c) {
        for (int share : new int[] {0, -1, 101, 240, 241, MIN, MAX}) {
            Seen.unchanged(c, PitchesEdgesTest::atAuction, "first bid at " + share, TributePitches.OUTSIDE,
                x -> x.bid(0, share));
        }
        for (int share : new int[] {0, -1, 90, 91, 100, MIN, MAX}) {
            Seen.unchanged(c, PitchesEdgesTest::withABid, "second bid at " + share, TributePitches.OUTSIDE,
                x -> x.bid(1, share));
        }
        c.due("first bid at 1", 1, atAuction().bid(0, 1));
        c.due("second bid at 1", 2, withABid().bid(1, 1));
    }

    private static void bidsAreTwenty(Checks c) {
        TributePitches x = afterTwentyBids();
        c.due("told", 20, x.told(5));
        c.due("the twentieth", 81, x.told(7));
        Seen.unchanged(c, PitchesEdgesTest::afterTwentyBids, "a twenty-first", TributePitches.FULL,
            z -> z.bid(0, 80));
        c.due("strike", 0, x.strike());
        c.due("to the twentieth", 1, x.taken(0, 0));
        c.due("at its share", 81, x.taken(0, 2));
    }

    /** BIDS at 100 .. 81 by GANGS 0 and 1 in turn, the last by 1. */
    private static TributePitches afterTwentyBids() {
        TributePitches x = atAuction();
        for (int b = 0; b < 20; b++) x.bid(b % 2, 100 - b);
        return x;
    }

    private static void bidRefusesInOrder(Checks c) {
        c.due("no gang ahead of no auction", TributePitches.UNKNOWN, Mines.small(0).bid(1, 1));
        c.due("no gang ahead of share", TributePitches.UNKNOWN, atAuction().bid(3, 0));
        c.due("no auction ahead of share", TributePitches.STATE, Mines.small(0).bid(0, 0));
        c.due("share ahead of the one ahead", TributePitches.OUTSIDE, withABid().bid(0, 90));
        c.due("share ahead of three pitches", TributePitches.OUTSIDE, withPitchesLet(3).bid(0, 241));
        c.due("share ahead of full", TributePitches.OUTSIDE, afterTwentyBids().bid(0, 81));
        c.due("the one ahead, ahead of full", TributePitches.STATE, afterTwentyBids().bid(1, 80));
        TributePitches x = withPitchesLet(3);
        x.gang(0);
        for (int b = 0; b < 20; b++) x.bid(1 + b % 2, 240 - b);
        c.due("three pitches ahead of full", TributePitches.STATE, x.bid(0, 1));
        c.due("full", TributePitches.FULL, x.bid(1, 1));
    }

    // ---- promise 11

    private static void struckToTheLast(Checks c) {
        TributePitches x = withABid();
        x.bid(2, 50);
        c.due("strike", 0, x.strike());
        c.due("its gang", 2, x.taken(0, 0));
        c.due("its share", 50, x.taken(0, 2));
        TributePitches z = withABid();
        c.due("strike with one bid", 0, z.strike());
        c.due("its gang", 0, z.taken(0, 0));
        c.due("its share", 90, z.taken(0, 2));
        TributePitches w = withABid();
        w.bid(1, 90);
        w.bid(0, 89);
        w.strike();
        c.due("a bid that was refused is none", 90, w.taken(0, 2));
    }

    private static void struckToNone(Checks c) {
        TributePitches x = atAuction();
        c.due("strike", -9, x.strike());
        for (int what = 5; what < 8; what++) c.due("told " + what, TributePitches.NONE, x.told(what));
        c.due("no take", 0, x.told(2));
        c.due("unlet", TributePitches.NONE, x.about(0, 5));
        c.due("none it had", 0, x.about(0, 6));
        c.due("strike again", TributePitches.STATE, x.strike());
        c.due("an auction of it again", 1, x.auction(0, 240));
        TributePitches z = Mines.afterTakes(40);
        z.auction(0, 240);
        c.due("none, when there is no room for one either", TributePitches.NONE, z.strike());
        c.due("over, too", TributePitches.NONE, z.told(6));
    }

    private static void takesAreForty(Checks c) {
        TributePitches x = Mines.afterTakes(39);
        c.due("the fortieth", 39, Mines.take(x, 0, 0, 240));
        c.due("told", 40, x.told(2));
        x.settle(39);
        c.due("a forty-first", TributePitches.FULL, Mines.take(x, 0, 0, 240));
        c.due("told", 40, x.told(2));
        c.due("taken of the fortieth", 1, x.taken(39, 3));
        c.due("taken of a forty-first", TributePitches.UNKNOWN, x.taken(40, 0));
        c.due("settle a forty-first", TributePitches.LOST, x.settle(40));
    }

    private static void strikeWithoutAnAuction(Checks c) {
        Seen.unchanged(c, () -> Mines.small(0), "strike ahead of any", TributePitches.STATE, x -> x.strike());
        TributePitches x = withABid();
        x.strike();
        c.due("strike again", TributePitches.STATE, x.strike());
        c.due("takes", 1, x.told(2));
        c.due("strike with 40 takes", TributePitches.STATE, Mines.afterTakes(40).strike());
    }

    private static void auctionGoesOnWhenTakesAreFull(Checks c) {
        Seen.unchanged(c, PitchesEdgesTest::fullWithABid, "strike", TributePitches.FULL, x -> x.strike());
        TributePitches x = fullWithABid();
        c.due("strike", TributePitches.FULL, x.strike());
        c.due("its bids", 1, x.told(5));
        c.due("its pitch", 0, x.told(6));
        c.due("its latest bid", 200, x.told(7));
        c.due("another bids", 2, x.bid(1, 199));
        c.due("strike again", TributePitches.FULL, x.strike());
        c.due("no other auction", TributePitches.STATE, x.auction(0, 1));
        c.due("unlet", TributePitches.NONE, x.about(0, 5));
        c.due("takes of the pitch", 40, x.about(0, 6));
        c.due("takes of the gang", 40, x.tell(0));
    }

    /** 40 TAKES were, two GANGS are, and GANG 0 has BID 200. */
    private static TributePitches fullWithABid() {
        TributePitches x = Mines.afterTakes(40);
        x.gang(0);
        x.auction(0, 240);
        x.bid(0, 200);
        return x;
    }

    // ---- promise 12

    private static void letFromStruckTillSettled(Checks c) {
        TributePitches x = Mines.small(0);
        c.due("ahead of an auction", TributePitches.NONE, x.about(0, 5));
        x.auction(0, 240);
        x.bid(0, 240);
        c.due("at auction", TributePitches.NONE, x.about(0, 5));
        x.strike();
        c.due("struck", 0, x.about(0, 5));
        x.parcel(0, 1, 1);
        c.due("worked", 0, x.about(0, 5));
        x.settle(0);
        c.due("settled", TributePitches.NONE, x.about(0, 5));
        Mines.take(x, 0, 0, 240);
        c.due("struck again", 1, x.about(0, 5));
        x.settle(0);
        c.due("an old take is no matter", 1, x.about(0, 5));
    }

    private static void takesOfAPitchAreCounted(Checks c) {
        TributePitches x = Mines.small(0);
        x.pitch(1, 0, 1, 0, 1);
        c.due("none", 0, x.about(0, 6));
        x.auction(0, 240);
        x.bid(0, 240);
        c.due("at auction", 0, x.about(0, 6));
        x.strike();
        c.due("not settled", 1, x.about(0, 6));
        x.settle(0);
        c.due("settled", 1, x.about(0, 6));
        Mines.take(x, 0, 1, 240);
        c.due("of another", 1, x.about(0, 6));
        c.due("another", 1, x.about(1, 6));
        c.due("forty", 40, Mines.afterTakes(40).about(0, 6));
    }

    private static void aboutNoPitch(Checks c) {
        c.due("of none", TributePitches.UNKNOWN, new TributePitches().about(0, 0));
        TributePitches x = Mines.pitches(2);
        for (int p : new int[] {-1, 2, 12, MIN, MAX}) {
            for (int what = 0; what < 7; what++) {
                c.due("about pitch " + p, TributePitches.UNKNOWN, x.about(p, what));
            }
        }
        c.due("the last", 1, x.about(1, 0));
    }

    private static void aboutSomethingElse(Checks c) {
        TributePitches x = new TributePitches();
        x.pitch(2, 3, 5, 4, 77);
        for (int what : new int[] {-1, 7, MIN, MAX}) {
            c.due("about its " + what, TributePitches.OUTSIDE, x.about(0, what));
        }
        int[] want = {2, 3, 5, 4, 77, TributePitches.NONE, 0};
        for (int what = 0; what < 7; what++) c.due("about its " + what, want[what], x.about(0, what));
    }

    private static void aboutRefusesInOrder(Checks c) {
        c.due("no pitch ahead of something else", TributePitches.UNKNOWN, Mines.pitches(1).about(1, 7));
        c.due("no pitch ahead of something else", TributePitches.UNKNOWN, Mines.pitches(1).about(-1, -1));
    }
}
