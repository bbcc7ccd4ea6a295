/** The edges that the document names of TELLING and GREETING in part 4 of its terms, and in promises 27 to 32. */
public final class PartsEdgesTest {
    private static final int MIN = Edges.MIN, MAX = Edges.MAX;
    private static final int NONE = TributePitches.NONE;
    /** Of GANGS where there are numbers 0 .. 2. */
    private static final int[] NO_GANGS = {-1, 3, 8, MIN, MAX};

    public static void main(String[] args) {
        Edges e = new Edges();
        e.term("bodies that leave their number in TRACE", PartsEdgesTest::bodiesLeaveTheirNumber);
        e.term("(an int that wraps, 0 at first, becomes 31 times it and the number)", PartsEdgesTest::traceWraps);
        e.term("as they begin", PartsEdgesTest::outerBodyComesFirst);
        e.term("GANG (1): how many TAKES it had", PartsEdgesTest::tellingOfAGang);
        e.term("FAMILY (2): 10 and what GANG's gives", PartsEdgesTest::tellingOfAFamily);
        e.term("OLD HANDS (3): what GANG's gives (the one of FAMILY left out), times 3",
            PartsEdgesTest::tellingOfOldHands);
        e.term("GREETED by a lent body (4): 10 times the number, and the kind", PartsEdgesTest::greetingOfAGang);
        e.term("FAMILIES have their own (5): 6", PartsEdgesTest::greetingOfAFamily);
        e.term("OLD HANDS theirs (6): what FAMILY's gives, and 1", PartsEdgesTest::greetingOfOldHands);

        e.promise(27, "UNKNOWN", PartsEdgesTest::tellNoGang);
        e.promise(28, "UNKNOWN", PartsEdgesTest::greetNoGang);
        e.promise(29, "UNKNOWN", PartsEdgesTest::noGangAsOne);
        e.promise(29, "OUTSIDE", PartsEdgesTest::gangAsNoKind);
        e.promise(29, "CAST: it is none", PartsEdgesTest::gangAsAnotherKind);
        e.promise(29, "UNKNOWN; OUTSIDE; CAST", PartsEdgesTest::asRefusesInOrder);
        e.promise(30, "TRACE", PartsEdgesTest::traceAtFirst);
        e.promise(31, "of the latest call that names one", PartsEdgesTest::faultOfTheLatest);
        e.promise(31, "0: it came to none", PartsEdgesTest::faultOfNone);
        e.promise(31, "or was refused", PartsEdgesTest::faultOfARefusal);
        e.promise(31, "(0 ahead of any)", PartsEdgesTest::faultAheadOfAny);
        e.promise(32, "0 PITCHES, 1 GANGS, 2 TAKES, 3 PARCELS", PartsEdgesTest::toldCounts);
        e.promise(32, "4 D", PartsEdgesTest::toldTheLaw);
        e.promise(32, "5 BIDS in this AUCTION (NONE: none is)", PartsEdgesTest::toldBids);
        e.promise(32, "6 its PITCH (NONE)", PartsEdgesTest::toldThePitch);
        e.promise(32, "7 what the latest BID is (what it began at, ahead of any; NONE)", PartsEdgesTest::toldTheBid);
        e.promise(32, "OUTSIDE", PartsEdgesTest::toldSomethingElse);
        e.close(27, 32);
    }

    /** A GANG of each kind by its number, and a PITCH. */
    private static TributePitches kinds() {
        TributePitches x = Mines.pitches(1);
        for (int kind = 0; kind < 3; kind++) x.gang(kind);
        return x;
    }

    // ---- part 4

    private static void bodiesLeaveTheirNumber(Checks c) {
        int[] told = {1, 2 * 31 + 1, 3 * 31 + 1}, greeted = {4, 5, 6 * 31 + 5};
        for (int g = 0; g < 3; g++) {
            TributePitches x = kinds();
            x.tell(g);
            c.due("trace of telling " + g, told[g], x.trace());
            TributePitches z = kinds();
            z.greet(g);
            c.due("trace of greeting " + g, greeted[g], z.trace());
        }
    }

    private static void traceWraps(Checks c) {
        TributePitches x = kinds();
        c.due("at first", 0, x.trace());
        x.greet(0);
        c.due("31 times 0 and 4", 4, x.trace());
        x.greet(1);
        c.due("31 times 4 and 5", 129, x.trace());
        int trace = 129;
        boolean below = false, above = false;
        for (int i = 0; i < 40; i++) {
            x.greet(i % 2);
            long whole = 31L * trace + 4 + i % 2;
            trace = (int) whole;
            below |= whole < Integer.MIN_VALUE;
            above |= whole > Integer.MAX_VALUE;
            c.due("after " + i + " more", trace, x.trace());
        }
        c.holds("it wrapped at both ends", below && above);
    }

    private static void outerBodyComesFirst(Checks c) {
        TributePitches x = kinds();
        x.tell(1);
        c.due("family, then gang", 2 * 31 + 1, x.trace());
        x.tell(2);
        c.due("old hands, then gang", ((2 * 31 + 1) * 31 + 3) * 31 + 1, x.trace());
        TributePitches z = kinds();
        z.greet(2);
        c.due("old hands, then family", 6 * 31 + 5, z.trace());
    }

    /** What GANG g tells: ahead of any TAKE, while it has one, when it had one, and when it had two. */
    private static void telling(Checks c, int g, int... want) {
        TributePitches x = kinds();
        c.due("with none", want[0], x.tell(g));
        Mines.take(x, (g + 1) % 3, 0, 240);
        x.settle(0);
        c.due("with one of another", want[0], x.tell(g));
        x.auction(0, 240);
        x.bid(g, 240);
        c.due("with a bid", want[0], x.tell(g));
        x.strike();
        c.due("with one", want[1], x.tell(g));
        x.settle(1);
        c.due("with one that is settled", want[1], x.tell(g));
        Mines.take(x, g, 0, 240);
        c.due("with two", want[2], x.tell(g));
    }

    private static void tellingOfAGang(Checks c) {
        telling(c, 0, 0, 1, 2);
        c.due("with forty", 40, Mines.afterTakes(40).tell(0));
    }

    private static void tellingOfAFamily(Checks c) {
        telling(c, 1, 10, 11, 12);
    }

    private static void tellingOfOldHands(Checks c) {
        telling(c, 2, 0, 3, 6);
    }

    private static void greetingOfAGang(Checks c) {
        TributePitches x = new TributePitches();
        for (int g = 0; g < 8; g++) {
            x.gang(0);
            c.due("greet " + g, 10 * g, x.greet(g));
        }
    }

    private static void greetingOfAFamily(Checks c) {
        TributePitches x = new TributePitches();
        for (int g = 0; g < 8; g++) {
            x.gang(1);
            c.due("greet " + g, 6, x.greet(g));
        }
    }

    private static void greetingOfOldHands(Checks c) {
        TributePitches x = new TributePitches();
        for (int g = 0; g < 8; g++) {
            x.gang(2);
            c.due("greet " + g, 7, x.greet(g));
        }
    }

    // ---- promises 27 to 30

    private static void tellNoGang(Checks c) {
        c.due("of none", TributePitches.UNKNOWN, new TributePitches().tell(0));
        for (int g : NO_GANGS) {
            Seen.unchanged(c, PartsEdgesTest::kinds, "tell " + g, TributePitches.UNKNOWN, x -> x.tell(g));
        }
        TributePitches x = kinds();
        x.tell(3);
        c.due("no body left a number", 0, x.trace());
    }

    private static void greetNoGang(Checks c) {
        c.due("of none", TributePitches.UNKNOWN, new TributePitches().greet(0));
        for (int g : NO_GANGS) {
            Seen.unchanged(c, PartsEdgesTest::kinds, "greet " + g, TributePitches.UNKNOWN, x -> x.greet(g));
        }
        TributePitches x = kinds();
        x.greet(3);
        c.due("no body left a number", 0, x.trace());
    }

    private static void noGangAsOne(Checks c) {
        c.due("of none", TributePitches.UNKNOWN, new TributePitches().as(0, 0));
        for (int g : NO_GANGS) {
            for (int kind = 0; kind < 3; kind++) {
                TributePitches x = kinds();
                x.as(0, 1);
                c.due(g + " as " + kind, TributePitches.UNKNOWN, x.as(g, kind));
                c.due("that is no fault", 0, x.fault());
            }
        }
    }

    private static void gangAsNoKind(Checks c) {
        for (int kind : new int[] {-1, 3, MIN, MAX}) {
            for (int g = 0; g < 3; g++) {
                TributePitches x = kinds();
                x.as(0, 1);
                c.due(g + " as " + kind, TributePitches.OUTSIDE, x.as(g, kind));
                c.due("that is no fault", 0, x.fault());
            }
        }
    }

    private static void gangAsAnotherKind(Checks c) {
        for (int g = 0; g < 3; g++) {
            for (int kind = 0; kind < 3; kind++) {
                TributePitches x = kinds();
                if (kind > g) {
                    c.fault(x, g + " as " + kind, 2, x.as(g, kind));
                } else {
                    c.due(g + " as " + kind, 1, x.as(g, kind));
                    c.due("no fault", 0, x.fault());
                }
                c.due("no body left a number", 0, x.trace());
            }
        }
    }

    private static void asRefusesInOrder(Checks c) {
        TributePitches x = kinds();
        c.due("no gang ahead of no kind", TributePitches.UNKNOWN, x.as(3, 3));
        c.due("no gang ahead of no kind", TributePitches.UNKNOWN, x.as(-1, -1));
        c.due("no gang ahead of another kind", TributePitches.UNKNOWN, x.as(3, 2));
        c.due("no kind ahead of another kind", TributePitches.OUTSIDE, x.as(0, 3));
    }

    private static void traceAtFirst(Checks c) {
        TributePitches x = new TributePitches();
        c.due("at first", 0, x.trace());
        x.gang(0);
        c.due("with a gang", 0, x.trace());
        x.tell(0);
        c.due("told", 1, x.trace());
        c.due("asking leaves nothing", 1, x.trace());
        c.due("another object has its own", 0, new TributePitches().trace());
    }

    // ---- promise 31

    private static void faultAheadOfAny(Checks c) {
        TributePitches x = new TributePitches();
        c.due("at first", 0, x.fault());
        x.find(8, 0, 0, 0);
        x.settle(0);
        x.lose(4);
        c.due("after calls that name none", 0, x.fault());
    }

    /** One after another, each of the FAULTS of each of the calls that name them. */
    private static void faultOfTheLatest(Checks c) {
        TributePitches x = Mines.busy();
        c.fault(x, "chart", 1, x.chart(3, 0, 0, 1, 0));
        c.fault(x, "chart", 2, x.chart(0, 1, 0, 1, 0));
        c.fault(x, "chart", 3, x.chart(0, 0, 3, 1, 0));
        c.fault(x, "chart", 4, x.chart(0, 0, 0, -1, 0));
        c.fault(x, "put", 1, x.put(3, 0, 0));
        c.fault(x, "sheet", 4, x.sheet(0, 0, -1));
        c.fault(x, "put", 3, x.put(0, 3, 0));
        c.lost(x, "cell", 1, x.cell(3, 0, 0));
        c.lost(x, "cell", 2, x.cell(0, 0, 1));
        c.lost(x, "cell", 3, x.cell(0, 3, 0));
        c.fault(x, "copy", 1, x.copy(3, 0, 0, 0, 1));
        c.fault(x, "copy", 3, x.copy(0, 3, 0, 0, 1));
        c.fault(x, "copy", 2, x.copy(0, 0, 1, 0, 1));
        x.lose(0);
        x.tell(0);
        x.told(0);
        c.due("other calls leave it", 2, x.fault());
        c.fault(x, "put", 1, x.put(3, 0, 0));
        c.fault(x, "as", 2, x.as(0, 1));
    }

    private static void faultOfNone(Checks c) {
        TributePitches x = Mines.busy();
        c.due("to begin with", 2, x.fault());
        x.chart(0, 0, 0, 1, 40);
        c.due("after chart", 0, x.fault());
        x.as(0, 1);
        x.sheet(3, 0, 1);
        c.due("after sheet", 0, x.fault());
        x.as(0, 1);
        x.put(3, 0, 1);
        c.due("after put", 0, x.fault());
        x.as(0, 1);
        x.cell(3, 0, 0);
        c.due("after cell", 0, x.fault());
        x.as(0, 1);
        x.copy(3, 0, 3, 0, 1);
        c.due("after copy", 0, x.fault());
        x.as(0, 1);
        x.as(0, 0);
        c.due("after as", 0, x.fault());
    }

    private static void faultOfARefusal(Checks c) {
        TributePitches x = Mines.busy();
        c.due("to begin with", 2, x.fault());
        x.chart(4, 0, 0, 1, 0);
        c.due("after chart", 0, x.fault());
        x.as(0, 1);
        x.chart(1, 1, 0, 2, 40);
        c.due("after chart of too good a cell", 0, x.fault());
        x.as(0, 1);
        x.sheet(0, 0, 49);
        c.due("after sheet", 0, x.fault());
        x.as(0, 1);
        x.put(4, 0, 1);
        c.due("after put", 0, x.fault());
        x.as(0, 1);
        x.cell(0, 0, 3);
        c.due("after cell", 0, x.fault());
        x.as(0, 1);
        x.copy(0, 0, 4, 0, 1);
        c.due("after copy", 0, x.fault());
        x.as(0, 1);
        x.as(0, 3);
        c.due("after as", 0, x.fault());
    }

    // ---- promise 32

    private static void toldCounts(Checks c) {
        TributePitches x = new TributePitches();
        for (int what = 0; what < 4; what++) c.due("told " + what, 0, x.told(what));
        TributePitches z = Mines.busy();
        int[] want = {3, 3, 2, 3};
        for (int what = 0; what < 4; what++) c.due("told " + what, want[what], z.told(what));
        z.pitch(0, 0, 0, 0, 1);
        z.gang(3);
        z.parcel(0, 1, 1);
        for (int what = 0; what < 4; what++) c.due("after refusals, told " + what, want[what], z.told(what));
    }

    private static void toldTheLaw(Checks c) {
        TributePitches x = new TributePitches();
        c.due("at first", 1000, x.told(4));
        x.rise(0);
        c.due("at last", 0, x.told(4));
        x.rise(1);
        c.due("after a refusal", 0, x.told(4));
    }

    private static void toldBids(Checks c) {
        TributePitches x = kinds();
        c.due("no auction", NONE, x.told(5));
        x.auction(0, 50);
        c.due("none", 0, x.told(5));
        x.bid(0, 51);
        c.due("one that was refused", 0, x.told(5));
        x.bid(0, 50);
        c.due("one", 1, x.told(5));
        x.bid(1, 40);
        c.due("two", 2, x.told(5));
        x.strike();
        c.due("no auction again", NONE, x.told(5));
        x.settle(0);
        x.auction(0, 50);
        c.due("none of the next", 0, x.told(5));
    }

    private static void toldThePitch(Checks c) {
        TributePitches x = Mines.pitches(12);
        c.due("no auction", NONE, x.told(6));
        x.auction(0, 1);
        c.due("the first", 0, x.told(6));
        x.strike();
        c.due("no auction again", NONE, x.told(6));
        x.auction(11, 1);
        c.due("the last", 11, x.told(6));
    }

    private static void toldTheBid(Checks c) {
        TributePitches x = kinds();
        c.due("no auction", NONE, x.told(7));
        x.auction(0, 240);
        c.due("what it began at", 240, x.told(7));
        x.bid(0, 240);
        c.due("the first", 240, x.told(7));
        x.bid(1, 1);
        c.due("the latest", 1, x.told(7));
        x.bid(0, 0);
        c.due("after a refusal", 1, x.told(7));
        x.strike();
        c.due("no auction again", NONE, x.told(7));
    }

    private static void toldSomethingElse(Checks c) {
        TributePitches x = Mines.busy();
        for (int what : new int[] {-1, 8, MIN, MAX}) {
            c.due("told " + what, TributePitches.OUTSIDE, x.told(what));
        }
        int[] want = {3, 3, 2, 3, 300, 2, 2, 80};
        for (int what = 0; what < 8; what++) c.due("told " + what, want[what], x.told(what));
    }
}
