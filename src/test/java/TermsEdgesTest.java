import java.util.function.ToLongFunction;

/** What the document says of all calls: refusals, faults, and how long an object is used. */
public final class TermsEdgesTest {
    private static final int UNKNOWN = TributePitches.UNKNOWN, OUTSIDE = TributePitches.OUTSIDE;
    private static final int STATE = TributePitches.STATE, FULL = TributePitches.FULL;
    private static final long LOST = TributePitches.LOST;

    /** A call of Mines.busy(), and what it answers. */
    private record Call(String name, long due, ToLongFunction<TributePitches> asked) {
    }

    /** Refused calls that name no FAULTS. */
    private static final Call[] REFUSED = {
        new Call("find nowhere", UNKNOWN, x -> x.find(8, 0, 1, 2)),
        new Call("find outside", OUTSIDE, x -> x.find(3, 2, 410, 1001)),
        new Call("find low above high", OUTSIDE, x -> x.find(3, 2, 450, 449)),
        new Call("find what is not so", STATE, x -> x.find(3, 2, 501, 600)),
        new Call("rise outside", OUTSIDE, x -> x.rise(-1)),
        new Call("rise above D", STATE, x -> x.rise(301)),
        new Call("good nowhere", UNKNOWN, x -> x.good(0, 6, 0)),
        new Call("good of no end", OUTSIDE, x -> x.good(0, 0, 2)),
        new Call("pitch nowhere", UNKNOWN, x -> x.pitch(5, 0, 8, 0, 1)),
        new Call("pitch of other tons", OUTSIDE, x -> x.pitch(5, 0, 5, 0, 101)),
        new Call("pitch over another", STATE, x -> x.pitch(3, 3, 4, 4, 1)),
        new Call("foretold of no pitch", LOST, x -> x.foretold(3, 0)),
        new Call("foretold of no end", LOST, x -> x.foretold(0, 2)),
        new Call("gang of no kind", OUTSIDE, x -> x.gang(3)),
        new Call("auction of no pitch", UNKNOWN, x -> x.auction(3, 1)),
        new Call("auction at no share", OUTSIDE, x -> x.auction(1, 0)),
        new Call("auction beside another", STATE, x -> x.auction(1, 1)),
        new Call("auction of what is let", STATE, x -> x.auction(0, 1)),
        new Call("bid of no gang", UNKNOWN, x -> x.bid(3, 1)),
        new Call("bid too high", OUTSIDE, x -> x.bid(0, 80)),
        new Call("bid twice", STATE, x -> x.bid(2, 79)),
        new Call("about no pitch", UNKNOWN, x -> x.about(3, 0)),
        new Call("about something else", OUTSIDE, x -> x.about(0, 7)),
        new Call("parcel of no take", UNKNOWN, x -> x.parcel(2, 1, 1)),
        new Call("parcel of no tons", OUTSIDE, x -> x.parcel(1, 0, 1)),
        new Call("parcel of a settled take", STATE, x -> x.parcel(0, 1, 1)),
        new Call("spend of no take", LOST, x -> x.spend(2, 0, 1)),
        new Call("spend on something else", LOST, x -> x.spend(1, 2, 1)),
        new Call("spend too much", LOST, x -> x.spend(1, 0, 100001)),
        new Call("spend of a settled take", LOST, x -> x.spend(0, 0, 1)),
        new Call("settle no take", LOST, x -> x.settle(2)),
        new Call("settle again", LOST, x -> x.settle(0)),
        new Call("taken of no take", UNKNOWN, x -> x.taken(2, 0)),
        new Call("taken of something else", OUTSIDE, x -> x.taken(0, 5)),
        new Call("money of no take", LOST, x -> x.money(2, 0)),
        new Call("money of something else", LOST, x -> x.money(0, 6)),
        new Call("debt of no gang", LOST, x -> x.debt(3)),
        new Call("no suspect", UNKNOWN, x -> x.suspect(1)),
        new Call("skill of no gang", LOST, x -> x.skill(3, 0)),
        new Call("skill of no number", LOST, x -> x.skill(0, 2)),
        new Call("lose no sheet", UNKNOWN, x -> x.lose(4)),
        new Call("tell no gang", UNKNOWN, x -> x.tell(3)),
        new Call("greet no gang", UNKNOWN, x -> x.greet(3)),
        new Call("told something else", OUTSIDE, x -> x.told(8))};

    /** Refused calls that name FAULTS. */
    private static final Call[] REFUSED_WITHOUT_FAULT = {
        new Call("chart of no sheet", UNKNOWN, x -> x.chart(4, 0, 0, 1, 0)),
        new Call("chart of no square", UNKNOWN, x -> x.chart(0, 0, 0, 1, 48)),
        new Call("chart of no lane", OUTSIDE, x -> x.chart(0, 3, 0, 1, 0)),
        new Call("chart of too good a cell", OUTSIDE, x -> x.chart(1, 1, 0, 2, 40)),
        new Call("chart of what is not so", STATE, x -> x.chart(0, 0, 0, 1, 19)),
        new Call("no such sheet", UNKNOWN, x -> x.sheet(4, 0, 1)),
        new Call("sheet of no lane", OUTSIDE, x -> x.sheet(0, 3, 1)),
        new Call("sheet too long", OUTSIDE, x -> x.sheet(0, 0, 49)),
        new Call("put on no sheet", UNKNOWN, x -> x.put(4, 0, 1)),
        new Call("cell of no sheet", LOST, x -> x.cell(4, 0, 0)),
        new Call("cell of no lane", LOST, x -> x.cell(0, 0, 3)),
        new Call("copy of no sheet", UNKNOWN, x -> x.copy(4, 0, 0, 0, 1)),
        new Call("copy to no sheet", UNKNOWN, x -> x.copy(0, 0, 4, 0, 1)),
        new Call("no gang as one", UNKNOWN, x -> x.as(3, 0)),
        new Call("as no kind", OUTSIDE, x -> x.as(0, 3))};

    /** Calls that come to a FAULT, by its number. */
    private static final Call[][] FAULTED = {{},
        {
            new Call("chart of nothing", -11, x -> x.chart(3, 0, 0, 1, 0)),
            new Call("put on nothing", -11, x -> x.put(3, 0, 1)),
            new Call("cell of nothing", LOST, x -> x.cell(3, 0, 0)),
            new Call("copy of nothing", -11, x -> x.copy(3, 0, 0, 0, 1)),
            new Call("copy to nothing", -11, x -> x.copy(0, 0, 3, 0, 1))},
        {
            new Call("chart of another lane", -12, x -> x.chart(0, 1, 0, 1, 0)),
            new Call("cell of another lane", LOST, x -> x.cell(0, 0, 1)),
            new Call("copy to another lane", -12, x -> x.copy(0, 0, 1, 0, 1)),
            new Call("a gang as a family", -12, x -> x.as(0, 1)),
            new Call("a gang as old hands", -12, x -> x.as(0, 2)),
            new Call("a family as old hands", -12, x -> x.as(1, 2))},
        {
            new Call("chart of no cell", -13, x -> x.chart(0, 0, 3, 1, 0)),
            new Call("chart of no square", -13, x -> x.chart(0, 0, 0, 2, 47)),
            new Call("put on no cell", -13, x -> x.put(0, 3, 1)),
            new Call("cell that is not", LOST, x -> x.cell(0, 3, 0)),
            new Call("copy of no cell", -13, x -> x.copy(0, 3, 0, 0, 1)),
            new Call("copy to no cell", -13, x -> x.copy(0, 0, 0, 3, 1)),
            new Call("copy of fewer than none", -13, x -> x.copy(0, 0, 0, 0, -1))},
        {
            new Call("chart of a size below 0", -14, x -> x.chart(0, 0, 0, -1, 0)),
            new Call("sheet of a size below 0", -14, x -> x.sheet(0, 0, -1))}};

    /** Calls that could come to several FAULTS, with the first of them. */
    private static final Call[] FIRST_OF_SEVERAL = {
        new Call("chart: null, size, index", -11, x -> x.chart(3, 0, -1, -1, 0)),
        new Call("chart: cast, size, index", -12, x -> x.chart(0, 1, -1, -1, 0)),
        new Call("chart: size, index", -14, x -> x.chart(0, 0, -1, -1, 0)),
        new Call("put: null, index", -11, x -> x.put(3, -1, 1)),
        new Call("copy: null, cast, index", -11, x -> x.copy(0, -1, 3, -1, -1)),
        new Call("copy: cast, index", -12, x -> x.copy(0, -1, 1, -1, -1))};

    /** Calls that could be refused in several ways, with the first of them. */
    private static final Call[] FIRST_REFUSAL = {
        new Call("find: unknown, outside", UNKNOWN, x -> x.find(8, 0, -1, 0)),
        new Call("find: outside, state", OUTSIDE, x -> x.find(3, 2, 501, 1001)),
        new Call("rise: outside, state", OUTSIDE, x -> x.rise(1001)),
        new Call("good: unknown, outside", UNKNOWN, x -> x.good(8, 0, 2)),
        new Call("chart: unknown, outside", UNKNOWN, x -> x.chart(4, 3, 0, 1, 0)),
        new Call("chart: unknown, outside", UNKNOWN, x -> x.chart(0, 3, 0, 1, 48)),
        new Call("chart: outside, state", OUTSIDE, x -> x.chart(1, 1, 0, 2, 19)),
        new Call("pitch: unknown, outside, state", UNKNOWN, x -> x.pitch(2, 2, 8, 2, 0)),
        new Call("pitch: outside, state", OUTSIDE, x -> x.pitch(2, 2, 3, 3, 0)),
        new Call("auction: unknown, outside, state", UNKNOWN, x -> x.auction(3, 0)),
        new Call("auction: outside, state", OUTSIDE, x -> x.auction(0, 0)),
        new Call("bid: unknown, outside", UNKNOWN, x -> x.bid(3, 80)),
        new Call("bid: outside, state", OUTSIDE, x -> x.bid(2, 80)),
        new Call("about: unknown, outside", UNKNOWN, x -> x.about(3, 7)),
        new Call("parcel: unknown, outside", UNKNOWN, x -> x.parcel(2, 0, 1)),
        new Call("parcel: outside, state", OUTSIDE, x -> x.parcel(0, 0, 1)),
        new Call("taken: unknown, outside", UNKNOWN, x -> x.taken(2, 5)),
        new Call("sheet: unknown, outside", UNKNOWN, x -> x.sheet(4, 3, 49)),
        new Call("as: unknown, outside", UNKNOWN, x -> x.as(3, 3))};

    public static void main(String[] args) {
        Edges e = new Edges();
        e.head("An object is used for at most 512 calls after it has been made", TermsEdgesTest::fiveHundredAndTwelve);
        e.head("An object is used for at most 512 calls after it has been made", TermsEdgesTest::everythingIsFull);
        e.term("UNKNOWN (there is no such SQUARE, PITCH, GANG, TAKE, PARCEL, SHEET, place)", TermsEdgesTest::constants);
        e.term("of several the first in the order in which a call's line tells them",
            TermsEdgesTest::firstRefusalOfSeveral);
        e.term("They change nothing", TermsEdgesTest::refusalsChangeNothing);
        e.term("(but fault(), of a call that names FAULTS)", TermsEdgesTest::refusalsAreNoFaults);
        e.term("(but fault(), of a call that names FAULTS)", TermsEdgesTest::otherRefusalsLeaveTheFault);
        e.term("1 NULL (there is nothing)", c -> faults(c, 1));
        e.term("2 CAST (it is of another LANE, kind)", c -> faults(c, 2));
        e.term("3 INDEX", c -> faults(c, 3));
        e.term("4 SIZE (a length below 0)", c -> faults(c, 4));
        e.term("Of a call the first that is come to, in the order told", TermsEdgesTest::firstFaultOfSeveral);
        e.term("it answers -10 less it (LOST, where a long is answered, as for refusals)",
            TermsEdgesTest::faultsAnswerTheirNumber);
        e.term("and changes nothing; fault() tells it", TermsEdgesTest::faultsChangeNothing);
        e.term("NONE is -9", TermsEdgesTest::noneIsNoRefusal);
        e.term("Quotients are cut toward 0", TermsEdgesTest::quotientsAreCut);
        e.close(1, 0);
    }

    private static void fiveHundredAndTwelve(Checks c) {
        TributePitches x = new TributePitches();
        x.gang(2);
        x.gang(0);
        int trace = 0;
        for (int call = 3; call <= 510; call++) {
            c.due("call " + call, 10, x.greet(1));
            trace = 31 * trace + 4;
        }
        c.due("call 511", trace, x.trace());
        c.due("call 512", 7, x.greet(0));
        TributePitches z = Mines.let(0, 240);
        for (int call = 6; call <= 511; call++) z.spend(0, call % 2, 100000);
        c.due("call 512", 0, z.settle(0));
    }

    /** As many of all as there can be, in one object, whose last eight TAKES are not settled. */
    private static void everythingIsFull(Checks c) {
        TributePitches x = Mines.pitches(12);
        for (int g = 0; g < 8; g++) x.gang(g % 3);
        for (int t = 0; t < 40; t++) {
            c.due("take " + t, t, Mines.take(x, t % 8, t % 12, 240));
            c.due("parcel", 2 * t, x.parcel(t, 1000, 1000));
            c.due("parcel", 2 * t + 1, x.parcel(t, 1000, 1000));
            if (t < 32) c.due("settle", 2000000, x.settle(t));
        }
        int[] full = {12, 8, 40, 80};
        for (int what = 0; what < 4; what++) c.due("told " + what, full[what], x.told(what));
        c.due("one more pitch", FULL, x.pitch(7, 5, 7, 5, 1));
        c.due("one more gang", FULL, x.gang(0));
        c.due("one more parcel", FULL, x.parcel(39, 1, 1));
        c.due("auction", 1, x.auction(4, 240));
        for (int b = 0; b < 20; b++) c.due("bid " + b, b + 1, x.bid(b % 8, 240 - b));
        c.due("one more bid", FULL, x.bid(4, 1));
        c.due("one more take", FULL, x.strike());
        c.due("the last pitch", 3, x.about(11, 6));
        c.due("the last gang, a family of five takes", 15, x.tell(7));
        c.due("the last take", 3, x.taken(39, 1));
        // Each of its five TAKES has f of 1000 and y of 4000000, but one is not settled.
        c.skill(x, 7, 4000, 1);
    }

    private static void constants(Checks c) {
        c.due("UNKNOWN", -1, TributePitches.UNKNOWN);
        c.due("OUTSIDE", -2, TributePitches.OUTSIDE);
        c.due("STATE", -3, TributePitches.STATE);
        c.due("FULL", -4, TributePitches.FULL);
        c.due("LOST", Long.MIN_VALUE, TributePitches.LOST);
        TributePitches x = Mines.busy();
        c.due("no square", UNKNOWN, x.good(8, 0, 0));
        c.due("no pitch", UNKNOWN, x.about(3, 0));
        c.due("no gang", UNKNOWN, x.tell(3));
        c.due("no take", UNKNOWN, x.taken(2, 0));
        c.due("no parcel", UNKNOWN, x.suspect(1));
        c.due("no sheet", UNKNOWN, x.lose(4));
    }

    private static void firstRefusalOfSeveral(Checks c) {
        for (Call call : FIRST_REFUSAL) c.due(call.name, call.due, call.asked.applyAsLong(Mines.busy()));
    }

    private static void refusalsChangeNothing(Checks c) {
        for (Call call : REFUSED) Seen.unchanged(c, Mines::busy, call.name, call.due, call.asked);
        for (Call call : REFUSED_WITHOUT_FAULT) Seen.unchanged(c, Mines::busy, call.name, call.due, call.asked);
    }

    private static void refusalsAreNoFaults(Checks c) {
        for (Call call : REFUSED_WITHOUT_FAULT) {
            TributePitches x = Mines.busy();
            c.due("a fault to begin with", 2, x.fault());
            c.due(call.name, call.due, call.asked.applyAsLong(x));
            c.due(call.name + ": fault()", 0, x.fault());
        }
    }

    private static void otherRefusalsLeaveTheFault(Checks c) {
        for (Call call : REFUSED) {
            TributePitches x = Mines.busy();
            c.due(call.name, call.due, call.asked.applyAsLong(x));
            c.due(call.name + ": fault()", 2, x.fault());
        }
    }

    private static void faults(Checks c, int fault) {
        for (Call call : FAULTED[fault]) {
            TributePitches x = Mines.busy();
            x.as(0, 0);
            c.due(call.name, call.due, call.asked.applyAsLong(x));
            c.due(call.name + ": fault()", fault, x.fault());
        }
    }

    private static void firstFaultOfSeveral(Checks c) {
        for (Call call : FIRST_OF_SEVERAL) {
            TributePitches x = Mines.busy();
            c.due(call.name, call.due, call.asked.applyAsLong(x));
            c.due(call.name + ": fault()", -10 - call.due, x.fault());
        }
        TributePitches x = Mines.busy();
        c.lost(x, "cell: null, index", 1, x.cell(3, -1, 0));
        c.lost(x, "cell: cast, index", 2, x.cell(0, -1, 1));
    }

    private static void faultsAnswerTheirNumber(Checks c) {
        TributePitches x = Mines.busy();
        c.due("put on nothing", -10 - 1, x.put(3, 0, 1));
        c.due("a gang as a family", -10 - 2, x.as(0, 1));
        c.due("put on no cell", -10 - 3, x.put(0, 3, 1));
        c.due("sheet of a size below 0", -10 - 4, x.sheet(0, 0, -1));
        c.due("cell of nothing", Long.MIN_VALUE, x.cell(3, 0, 0));
        c.due("cell of another lane", Long.MIN_VALUE, x.cell(0, 0, 1));
        c.due("cell that is not", Long.MIN_VALUE, x.cell(0, 3, 0));
    }

    private static void faultsChangeNothing(Checks c) {
        for (int fault = 1; fault <= 4; fault++) {
            for (Call call : FAULTED[fault]) {
                Seen.unchanged(c, Mines::busy, call.name, call.due, call.asked);
                TributePitches x = Mines.busy();
                call.asked.applyAsLong(x);
                c.due("fault()", fault, x.fault());
                c.due("fault() again", fault, x.fault());
            }
        }
    }

    private static void noneIsNoRefusal(Checks c) {
        c.due("NONE", -9, TributePitches.NONE);
        TributePitches x = Mines.small(0);
        c.due("told of no auction", -9, x.told(5));
        c.due("about no take", -9, x.about(0, 5));
        x.auction(0, 1);
        c.due("strike with no bid", -9, x.strike());
        c.due("the auction is over all the same", STATE, x.strike());
    }

    private static void quotientsAreCut(Checks c) {
        TributePitches x = Mines.let(0, 239);
        x.parcel(0, 1, 1);
        c.due("239 by 240", 0, x.settle(0));
        TributePitches z = Mines.let(1, 240);
        z.spend(0, 0, 99999);
        z.settle(0);
        c.due("half of 99999", 49999, z.debt(0));
        TributePitches w = Mines.let(2, 240);
        w.spend(0, 1, 99999);
        w.settle(0);
        Mines.take(w, 0, 0, 240);
        w.parcel(1, 1000, 1000);
        c.due("half of 99999 taken", 950001, w.settle(1));
        c.due("the other half", 50000, w.debt(0));
    }
}
