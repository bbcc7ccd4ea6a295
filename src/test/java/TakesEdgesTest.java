import java.util.function.ToLongFunction;

/** The edges that the document names in part 3 of its terms and in promises 13 to 21. */
public final class TakesEdgesTest {
    private static final int MIN = Edges.MIN, MAX = Edges.MAX;
    /** Of TAKES where there is just number 0. */
    private static final int[] NO_TAKES = {-1, 1, 40, MIN, MAX};

    public static void main(String[] args) {
        Edges e = new Edges();
        e.term("PARCELS, 80 ever", TakesEdgesTest::parcelsAreEighty);
        e.term("of a TAKE that is not settled", TakesEdgesTest::parcelOfASettledTake);
        e.term("tons (1 .. 1000)", TakesEdgesTest::parcelOfOtherTons);
        e.term("goodness (0 .. 1000, as sampled)", TakesEdgesTest::parcelOfOtherGoodness);
        e.term("WORTH: tons times goodness, pence", TakesEdgesTest::worthFromLeastToMost);
        e.term("COSTS of a TAKE (pence, 0 .. 100000 each): they add up", TakesEdgesTest::costsAddUp);
        e.term("AHEAD: money given ahead (likewise)", TakesEdgesTest::aheadAddsUp);
        e.term("SHARE times the sum of WORTHS by 240 (cut)", TakesEdgesTest::shareIsCut);
        e.term("less COSTS (of a FAMILY half of them, cut; of OLD HANDS, too)", TakesEdgesTest::halfTheCostsIsCut);
        e.term("less AHEAD", TakesEdgesTest::allThatWasAheadIsTaken);
        e.term("all of it (of OLD HANDS half of it, cut)", TakesEdgesTest::debtIsTaken);
        e.term("What was not taken stays DEBT", TakesEdgesTest::whatWasNotTakenStays);
        e.term("DUE below 0: as much more is DEBT, PAY is 0", TakesEdgesTest::dueBelowNaughtIsDebt);
        e.term("else PAY is DUE", TakesEdgesTest::dueOfNaughtIsPaid);
        e.term("Then the PITCH is unlet", TakesEdgesTest::settledPitchIsUnlet);
        e.term("a PARCEL whose goodness is above the greatest high", TakesEdgesTest::suspectIsAboveTheGreatestHigh);
        e.term("of its PITCH's SQUARES", TakesEdgesTest::otherSquaresAreNoMatter);
        e.term("as these SPANS are now", TakesEdgesTest::suspectsFollowTheSpans);
        e.term("of its SETTLED TAKES", TakesEdgesTest::skillIsOfSettledTakes);
        e.term("(least and greatest as they were when it was struck, summed)",
            TakesEdgesTest::skillIsByWhatWasForetold);
        e.term("above 0", TakesEdgesTest::skillLeavesOutTheWorthless);
        e.term("y twice the sum of WORTHS", TakesEdgesTest::skillOfTheGreatestSums);
        e.term("in least terms", TakesEdgesTest::skillIsInLeastTerms);
        e.term("(none: 0 by 1)", TakesEdgesTest::skillOfNone);

        e.promise(13, "UNKNOWN", TakesEdgesTest::parcelOfNoTake);
        e.promise(13, "OUTSIDE", TakesEdgesTest::parcelOfOtherTons);
        e.promise(13, "OUTSIDE", TakesEdgesTest::parcelOfOtherGoodness);
        e.promise(13, "STATE: it is SETTLED", TakesEdgesTest::parcelOfASettledTake);
        e.promise(13, "FULL", TakesEdgesTest::parcelsAreEighty);
        e.promise(13, "UNKNOWN; OUTSIDE; STATE: it is SETTLED; FULL", TakesEdgesTest::parcelRefusesInOrder);

        e.promise(14, "what they are then", TakesEdgesTest::costsAddUp);
        e.promise(14, "LOST: UNKNOWN", TakesEdgesTest::spendOfNoTake);
        e.promise(14, "OUTSIDE", TakesEdgesTest::spendOnSomethingElse);
        e.promise(14, "OUTSIDE", TakesEdgesTest::spendOtherPence);
        e.promise(14, "STATE: it is SETTLED", TakesEdgesTest::spendOfASettledTake);

        e.promise(15, "LOST: UNKNOWN", TakesEdgesTest::settleNoTake);
        e.promise(15, "STATE: it was", TakesEdgesTest::settleTwice);

        e.promise(16, "3 whether it is SETTLED (1, 0)", TakesEdgesTest::takenOfBeingSettled);
        e.promise(16, "4 how many PARCELS", TakesEdgesTest::takenOfParcels);
        e.promise(16, "UNKNOWN", TakesEdgesTest::takenOfNoTake);
        e.promise(16, "OUTSIDE", TakesEdgesTest::takenOfSomethingElse);
        e.promise(16, "UNKNOWN; OUTSIDE", TakesEdgesTest::takenRefusesInOrder);

        e.promise(17, "3 PAY (0: not SETTLED)", TakesEdgesTest::payAheadOfSettling);
        e.promise(17, "4, 5 FORETOLD least, greatest when it was struck", TakesEdgesTest::foretoldWhenStruck);
        e.promise(17, "LOST: UNKNOWN", TakesEdgesTest::moneyOfNoTake);
        e.promise(17, "OUTSIDE", TakesEdgesTest::moneyOfSomethingElse);

        e.promise(18, "LOST: UNKNOWN", TakesEdgesTest::debtOfNoGang);
        e.promise(19, "How many PARCELS are SUSPECT", TakesEdgesTest::suspectsFromNoneToAll);
        e.promise(20, "The i-th SUSPECT PARCEL, by number", TakesEdgesTest::suspectsByNumber);
        e.promise(20, "UNKNOWN", TakesEdgesTest::suspectAtNoPlace);
        e.promise(21, "LOST: UNKNOWN", TakesEdgesTest::skillOfNoGang);
        e.promise(21, "OUTSIDE", TakesEdgesTest::skillOfAnotherNumber);
        e.close(13, 21);
    }

    /** A refused call of one whose kind is 0 and whose TAKE 0 is struck at 240. */
    private static void refused(Checks c, String call, long due, ToLongFunction<TributePitches> asked) {
        Seen.unchanged(c, () -> Mines.let(0, 240), call, due, asked);
    }

    private static TributePitches settled() {
        TributePitches x = Mines.let(0, 240);
        x.parcel(0, 7, 10);
        x.spend(0, 0, 30);
        x.spend(0, 1, 4);
        x.settle(0);
        return x;
    }

    // ---- promise 13

    private static void parcelsAreEighty(Checks c) {
        TributePitches x = Mines.let(0, 240);
        for (int i = 0; i < 80; i++) c.due("parcel " + i, i, x.parcel(0, 1000, 1000));
        c.due("one more", TributePitches.FULL, x.parcel(0, 1, 1));
        c.due("told", 80, x.told(3));
        c.due("of the take", 80, x.taken(0, 4));
        c.due("their worth", 80000000, x.money(0, 0));
        Seen.unchanged(c, TakesEdgesTest::afterEightyParcels, "one more", TributePitches.FULL, z -> z.parcel(0, 1, 1));
        TributePitches z = afterEightyParcels();
        z.settle(0);
        Mines.take(z, 0, 0, 240);
        c.due("one more of another take", TributePitches.FULL, z.parcel(1, 1, 1));
    }

    private static TributePitches afterEightyParcels() {
        TributePitches x = Mines.let(0, 240);
        for (int i = 0; i < 80; i++) x.parcel(0, 1, i);
        return x;
    }

    private static void parcelOfASettledTake(Checks c) {
        Seen.unchanged(c, TakesEdgesTest::settled, "parcel", TributePitches.STATE, x -> x.parcel(0, 1, 1));
        TributePitches x = settled();
        Mines.take(x, 0, 0, 240);
        c.due("of the take before", TributePitches.STATE, x.parcel(0, 1, 1));
        c.due("of the next take", 1, x.parcel(1, 1, 1));
    }

    private static void parcelOfOtherTons(Checks c) {
        for (int tons : new int[] {0, 1001, -1, MIN, MAX}) {
            refused(c, "parcel of " + tons, TributePitches.OUTSIDE, x -> x.parcel(0, tons, 1));
        }
        TributePitches x = Mines.let(0, 240);
        c.due("parcel of 1", 0, x.parcel(0, 1, 1));
        c.due("parcel of 1000", 1, x.parcel(0, 1000, 1));
        c.due("both", 1001, x.money(0, 0));
    }

    private static void parcelOfOtherGoodness(Checks c) {
        for (int good : new int[] {-1, 1001, MIN, MAX}) {
            refused(c, "parcel as good as " + good, TributePitches.OUTSIDE, x -> x.parcel(0, 1, good));
        }
        TributePitches x = Mines.let(0, 240);
        c.due("parcel as good as 0", 0, x.parcel(0, 1, 0));
        c.due("parcel as good as 1000", 1, x.parcel(0, 1, 1000));
        c.due("both", 1000, x.money(0, 0));
    }

    private static void worthFromLeastToMost(Checks c) {
        TributePitches x = Mines.let(0, 240);
        c.due("none", 0, x.money(0, 0));
        x.parcel(0, 1000, 0);
        c.due("worthless", 0, x.money(0, 0));
        x.parcel(0, 1, 1);
        c.due("the least", 1, x.money(0, 0));
        x.parcel(0, 1000, 1000);
        c.due("the most", 1000001, x.money(0, 0));
    }

    private static void parcelOfNoTake(Checks c) {
        c.due("of none", TributePitches.UNKNOWN, Mines.small(0).parcel(0, 1, 1));
        for (int t : NO_TAKES) refused(c, "parcel of take " + t, TributePitches.UNKNOWN, x -> x.parcel(t, 1, 1));
    }

    private static void parcelRefusesInOrder(Checks c) {
        c.due("no take ahead of tons", TributePitches.UNKNOWN, Mines.let(0, 240).parcel(1, 0, 1));
        c.due("no take ahead of goodness", TributePitches.UNKNOWN, Mines.let(0, 240).parcel(-1, 1, 1001));
        c.due("no take ahead of full", TributePitches.UNKNOWN, afterEightyParcels().parcel(1, 1, 1));
        c.due("tons ahead of settled", TributePitches.OUTSIDE, settled().parcel(0, 1001, 1));
        c.due("goodness ahead of settled", TributePitches.OUTSIDE, settled().parcel(0, 1, -1));
        c.due("tons ahead of full", TributePitches.OUTSIDE, afterEightyParcels().parcel(0, 0, 1));
        c.due("goodness ahead of full", TributePitches.OUTSIDE, afterEightyParcels().parcel(0, 1, 1001));
        TributePitches x = afterEightyParcels();
        x.settle(0);
        c.due("settled ahead of full", TributePitches.STATE, x.parcel(0, 1, 1));
    }

    // ---- promise 14

    private static void costsAddUp(Checks c) {
        TributePitches x = Mines.let(0, 240);
        c.due("nothing", 0, x.spend(0, 0, 0));
        c.due("1", 1, x.spend(0, 0, 1));
        c.due("the most", 100001, x.spend(0, 0, 100000));
        c.due("nothing more", 100001, x.spend(0, 0, 0));
        c.due("costs", 100001, x.money(0, 1));
        c.due("ahead", 0, x.money(0, 2));
        for (int i = 0; i < 400; i++) x.spend(0, 0, 100000);
        c.due("as often as may be", 40100001, x.money(0, 1));
    }

    private static void aheadAddsUp(Checks c) {
        TributePitches x = Mines.let(0, 240);
        c.due("nothing", 0, x.spend(0, 1, 0));
        c.due("1", 1, x.spend(0, 1, 1));
        c.due("the most", 100001, x.spend(0, 1, 100000));
        for (int pence : new int[] {-1, 100001}) c.due("other pence", TributePitches.LOST, x.spend(0, 1, pence));
        c.due("costs", 0, x.money(0, 1));
        c.due("ahead", 100001, x.money(0, 2));
    }

    private static void spendOfNoTake(Checks c) {
        c.due("of none", TributePitches.LOST, Mines.small(0).spend(0, 0, 1));
        for (int t : NO_TAKES) refused(c, "spend of take " + t, TributePitches.LOST, x -> x.spend(t, 0, 1));
    }

    private static void spendOnSomethingElse(Checks c) {
        for (int what : new int[] {-1, 2, MIN, MAX}) {
            refused(c, "spend on " + what, TributePitches.LOST, x -> x.spend(0, what, 1));
        }
    }

    private static void spendOtherPence(Checks c) {
        for (int pence : new int[] {-1, 100001, MIN, MAX}) {
            for (int what = 0; what < 2; what++) {
                int kind = what;
                refused(c, "spend " + pence, TributePitches.LOST, x -> x.spend(0, kind, pence));
            }
        }
        TributePitches x = Mines.let(0, 240);
        for (int what = 0; what < 2; what++) {
            c.due("spend 0", 0, x.spend(0, what, 0));
            c.due("spend 100000", 100000, x.spend(0, what, 100000));
        }
    }

    private static void spendOfASettledTake(Checks c) {
        for (int what = 0; what < 2; what++) {
            int kind = what;
            Seen.unchanged(c, TakesEdgesTest::settled, "spend " + what, TributePitches.LOST, x -> x.spend(0, kind, 1));
            Seen.unchanged(c, TakesEdgesTest::settled, "spend 0", TributePitches.LOST, x -> x.spend(0, kind, 0));
        }
    }

    // ---- promise 15

    private static void shareIsCut(Checks c) {
        int[][] rows = {{1, 239, 0}, {1, 240, 1}, {1, 479, 1}, {1, 480, 2}, {239, 1, 0}, {239, 2, 1}, {240, 7, 7},
            {120, 3, 1}, {80, 10, 3}, {240, 0, 0}};
        for (int[] row : rows) {
            TributePitches x = Mines.let(0, row[0]);
            if (row[1] > 0) x.parcel(0, row[1], 1);
            c.due("settle by " + row[0] + " of " + row[1], row[2], x.settle(0));
        }
        TributePitches sum = Mines.let(0, 120);
        sum.parcel(0, 1, 1);
        sum.parcel(0, 1, 1);
        c.due("the sum is cut, not each worth", 1, sum.settle(0));
        TributePitches less = Mines.let(0, 120);
        less.parcel(0, 3, 1);
        less.spend(0, 0, 1);
        c.due("it is cut ahead of what is less", 0, less.settle(0));
        c.due("so that nothing is owed", 0, less.debt(0));
        TributePitches owing = Mines.let(0, 120);
        owing.parcel(0, 3, 1);
        owing.spend(0, 0, 2);
        owing.settle(0);
        c.due("nor is it cut below", 1, owing.debt(0));
        TributePitches most = Mines.let(0, 240);
        for (int i = 0; i < 80; i++) most.parcel(0, 1000, 1000);
        c.due("the most there can be", 80000000, most.settle(0));
    }

    private static void halfTheCostsIsCut(Checks c) {
        int[][] owed = {{0, 1, 2, 3, 101}, {0, 0, 1, 1, 50}, {0, 0, 1, 1, 50}};
        int[] costs = {0, 1, 2, 3, 101};
        for (int kind = 0; kind < 3; kind++) {
            for (int i = 0; i < costs.length; i++) {
                TributePitches x = Mines.let(kind, 240);
                x.spend(0, 0, costs[i]);
                c.due("settle with costs of " + costs[i], 0, x.settle(0));
                c.due("what kind " + kind + " owes", owed[kind][i], x.debt(0));
                c.due("costs are told whole", costs[i], x.money(0, 1));
            }
        }
        TributePitches x = Mines.let(1, 240);
        x.spend(0, 0, 1);
        x.spend(0, 0, 1);
        x.settle(0);
        c.due("the sum of them is halved", 1, x.debt(0));
    }

    private static void allThatWasAheadIsTaken(Checks c) {
        for (int kind = 0; kind < 3; kind++) {
            TributePitches x = Mines.let(kind, 240);
            x.parcel(0, 100, 1);
            x.spend(0, 1, 99);
            c.due("settle with more than was ahead", 1, x.settle(0));
            TributePitches z = Mines.let(kind, 240);
            z.spend(0, 1, 3);
            z.settle(0);
            c.due("all of it is owed", 3, z.debt(0));
        }
    }

    /** A GANG of a kind that owes so much, with another TAKE, number 1, at 240. */
    private static TributePitches owing(int kind, int debt) {
        TributePitches x = Mines.let(kind, 240);
        x.spend(0, 1, debt);
        x.settle(0);
        Mines.take(x, 0, 0, 240);
        return x;
    }

    private static void debtIsTaken(Checks c) {
        for (int kind = 0; kind < 3; kind++) {
            for (int debt : new int[] {0, 1, 2, 3, 101}) {
                TributePitches x = owing(kind, debt);
                c.due("debt of kind " + kind, debt, x.debt(0));
                x.parcel(1, 500, 1);
                int taken = kind == 2 ? debt / 2 : debt;
                c.due("settle of kind " + kind, 500 - taken, x.settle(1));
                c.due("pay", 500 - taken, x.money(1, 3));
            }
        }
    }

    private static void whatWasNotTakenStays(Checks c) {
        for (int debt : new int[] {0, 1, 2, 3, 101}) {
            TributePitches x = owing(2, debt);
            x.parcel(1, 500, 1);
            x.settle(1);
            c.due("of " + debt + " of old hands", debt - debt / 2, x.debt(0));
            for (int kind = 0; kind < 2; kind++) {
                TributePitches z = owing(kind, debt);
                z.parcel(1, 500, 1);
                z.settle(1);
                c.due("of " + debt + " of the others", 0, z.debt(0));
            }
        }
    }

    private static void dueBelowNaughtIsDebt(Checks c) {
        TributePitches x = Mines.let(0, 240);
        x.parcel(0, 10, 1);
        x.spend(0, 0, 11);
        c.due("settle at -1", 0, x.settle(0));
        c.due("pay", 0, x.money(0, 3));
        c.due("debt", 1, x.debt(0));
        for (int kind = 0; kind < 3; kind++) {
            // 9 of the 101 are paid off by what was worth 9; nothing else is.
            TributePitches z = owing(kind, 101);
            z.parcel(1, 9, 1);
            c.due("settle of kind " + kind, 0, z.settle(1));
            c.due("debt", 92, z.debt(0));
            TributePitches more = owing(kind, 101);
            more.spend(1, 1, 5);
            c.due("settle with nothing", 0, more.settle(1));
            c.due("debt grows", 106, more.debt(0));
        }
        TributePitches old = owing(2, 101);
        old.parcel(1, 50, 1);
        c.due("old hands that are worth just the half", 0, old.settle(1));
        c.due("have the rest left", 51, old.debt(0));
    }

    private static void dueOfNaughtIsPaid(Checks c) {
        TributePitches x = Mines.let(0, 240);
        x.parcel(0, 10, 1);
        x.spend(0, 0, 10);
        c.due("settle at 0", 0, x.settle(0));
        c.due("no debt", 0, x.debt(0));
        TributePitches z = Mines.let(0, 240);
        z.parcel(0, 10, 1);
        z.spend(0, 0, 9);
        c.due("settle at 1", 1, z.settle(0));
        c.due("pay", 1, z.money(0, 3));
        c.due("no debt", 0, z.debt(0));
        TributePitches w = Mines.let(0, 240);
        c.due("settle with nothing at all", 0, w.settle(0));
        c.due("no debt", 0, w.debt(0));
    }

    private static void settledPitchIsUnlet(Checks c) {
        TributePitches x = Mines.let(0, 240);
        x.pitch(1, 0, 1, 0, 1);
        Mines.take(x, 0, 1, 240);
        x.settle(0);
        c.due("unlet", TributePitches.NONE, x.about(0, 5));
        c.due("the other is not", 1, x.about(1, 5));
        c.due("let again", 2, Mines.take(x, 0, 0, 240));
        c.due("let again", 2, x.about(0, 5));
    }

    private static void settleNoTake(Checks c) {
        c.due("of none", TributePitches.LOST, Mines.small(0).settle(0));
        for (int t : NO_TAKES) refused(c, "settle take " + t, TributePitches.LOST, x -> x.settle(t));
        c.due("a take", 0, Mines.let(0, 240).settle(0));
    }

    private static void settleTwice(Checks c) {
        Seen.unchanged(c, TakesEdgesTest::settled, "settle again", TributePitches.LOST, x -> x.settle(0));
        TributePitches x = owing(0, 5);
        c.due("settle the first again", TributePitches.LOST, x.settle(0));
        c.due("debt is as it was", 5, x.debt(0));
        c.due("the next is let as it was", 1, x.about(0, 5));
        c.due("the next can be settled", 0, x.settle(1));
    }

    // ---- promises 16 to 18

    private static void takenOfBeingSettled(Checks c) {
        TributePitches x = Mines.let(0, 240);
        c.due("not yet", 0, x.taken(0, 3));
        x.settle(0);
        c.due("then", 1, x.taken(0, 3));
        Mines.take(x, 0, 0, 240);
        c.due("the next", 0, x.taken(1, 3));
    }

    private static void takenOfParcels(Checks c) {
        TributePitches x = Mines.let(0, 240);
        c.due("none", 0, x.taken(0, 4));
        x.parcel(0, 1, 1);
        x.parcel(0, 0, 1);
        c.due("one, and one that was refused", 1, x.taken(0, 4));
        x.settle(0);
        Mines.take(x, 0, 0, 240);
        x.parcel(1, 1, 1);
        x.parcel(1, 1, 1);
        c.due("of the first", 1, x.taken(0, 4));
        c.due("of the next", 2, x.taken(1, 4));
    }

    private static void takenOfNoTake(Checks c) {
        c.due("of none", TributePitches.UNKNOWN, Mines.small(0).taken(0, 0));
        TributePitches x = Mines.let(0, 240);
        for (int t : NO_TAKES) {
            for (int what = 0; what < 5; what++) c.due("taken of " + t, TributePitches.UNKNOWN, x.taken(t, what));
        }
    }

    private static void takenOfSomethingElse(Checks c) {
        TributePitches x = Mines.let(0, 240);
        for (int what : new int[] {-1, 5, MIN, MAX}) c.due("taken " + what, TributePitches.OUTSIDE, x.taken(0, what));
        int[] want = {0, 0, 240, 0, 0};
        for (int what = 0; what < 5; what++) c.due("taken " + what, want[what], x.taken(0, what));
    }

    private static void takenRefusesInOrder(Checks c) {
        c.due("no take ahead of something else", TributePitches.UNKNOWN, Mines.let(0, 240).taken(1, 5));
        c.due("no take ahead of something else", TributePitches.UNKNOWN, Mines.let(0, 240).taken(-1, -1));
    }

    private static void payAheadOfSettling(Checks c) {
        TributePitches x = Mines.let(0, 240);
        x.parcel(0, 100, 1);
        c.due("not settled", 0, x.money(0, 3));
        x.settle(0);
        c.due("settled", 100, x.money(0, 3));
        Mines.take(x, 0, 0, 240);
        c.due("the next", 0, x.money(1, 3));
    }

    private static void foretoldWhenStruck(Checks c) {
        TributePitches x = Mines.small(0);
        x.auction(0, 240);
        x.bid(0, 240);
        x.find(0, 0, 5, 900);
        x.strike();
        c.due("least, not when the auction began", 15, x.money(0, 4));
        c.due("greatest, not when the auction began", 2700, x.money(0, 5));
        x.find(0, 0, 6, 800);
        c.due("least, not now", 15, x.money(0, 4));
        c.due("greatest, not now", 2700, x.money(0, 5));
        x.settle(0);
        c.due("least, not when it was settled", 15, x.money(0, 4));
        c.due("greatest, not when it was settled", 2700, x.money(0, 5));
    }

    private static void moneyOfNoTake(Checks c) {
        c.due("of none", TributePitches.LOST, Mines.small(0).money(0, 0));
        TributePitches x = Mines.let(0, 240);
        for (int t : NO_TAKES) {
            for (int what = 0; what < 6; what++) c.due("money of " + t, TributePitches.LOST, x.money(t, what));
        }
    }

    private static void moneyOfSomethingElse(Checks c) {
        TributePitches x = Mines.let(0, 240);
        for (int what : new int[] {-1, 6, MIN, MAX}) c.due("money " + what, TributePitches.LOST, x.money(0, what));
        long[] want = {0, 0, 0, 0, 0, 3000};
        for (int what = 0; what < 6; what++) c.due("money " + what, want[what], x.money(0, what));
    }

    private static void debtOfNoGang(Checks c) {
        c.due("of none", TributePitches.LOST, new TributePitches().debt(0));
        TributePitches x = owing(0, 5);
        x.gang(1);
        for (int g : new int[] {-1, 2, 8, MIN, MAX}) c.due("debt of gang " + g, TributePitches.LOST, x.debt(g));
        c.due("debt of the first", 5, x.debt(0));
        c.due("debt of the last", 0, x.debt(1));
    }

    // ---- promises 19 and 20

    private static void suspectIsAboveTheGreatestHigh(Checks c) {
        TributePitches x = new TributePitches();
        x.gang(0);
        x.pitch(0, 0, 1, 1, 1);
        Mines.take(x, 0, 0, 240);
        int[] highs = {10, 20, 15, 5};
        for (int s = 0; s < 4; s++) x.find(s % 2, s / 2, 0, highs[s]);
        x.parcel(0, 1, 20);
        c.due("at the greatest high", 0, x.suspects());
        x.parcel(0, 1, 21);
        c.due("above the greatest high", 1, x.suspects());
        c.due("it", 1, x.suspect(0));
        TributePitches best = Mines.let(0, 240);
        best.parcel(0, 1, 1000);
        c.due("the best where nothing was found", 0, best.suspects());
        TributePitches worst = Mines.let(0, 240);
        worst.find(0, 0, 0, 0);
        worst.parcel(0, 1, 0);
        c.due("nothing where nothing is", 0, worst.suspects());
        worst.parcel(0, 1, 1);
        c.due("something where nothing is", 1, worst.suspects());
    }

    private static void otherSquaresAreNoMatter(Checks c) {
        // The greatest high may be at any corner of the PITCH, and none beside it counts.
        int[][] corners = {{2, 2}, {4, 2}, {2, 3}, {4, 3}};
        for (int[] best : corners) {
            TributePitches x = new TributePitches();
            x.gang(0);
            x.pitch(2, 2, 4, 3, 1);
            Mines.take(x, 0, 0, 240);
            for (int s = 0; s < 6; s++) x.find(2 + s % 3, 2 + s / 3, 0, 50);
            x.parcel(0, 1, 50);
            x.parcel(0, 1, 51);
            c.due("by its own squares", 1, x.suspects());
            TributePitches z = new TributePitches();
            z.gang(0);
            z.pitch(2, 2, 4, 3, 1);
            Mines.take(z, 0, 0, 240);
            for (int s = 0; s < 6; s++) {
                int column = 2 + s % 3, row = 2 + s / 3;
                z.find(column, row, 0, column == best[0] && row == best[1] ? 60 : 50);
            }
            z.parcel(0, 1, 60);
            z.parcel(0, 1, 61);
            c.due("by the best corner", 1, z.suspects());
        }
    }

    private static void suspectsFollowTheSpans(Checks c) {
        TributePitches x = Mines.let(0, 240);
        x.parcel(0, 1, 500);
        c.due("not yet", 0, x.suspects());
        x.find(0, 0, 0, 500);
        c.due("not at it", 0, x.suspects());
        x.settle(0);
        x.find(0, 0, 0, 499);
        c.due("settled, too", 1, x.suspects());
        Mines.take(x, 0, 0, 240);
        x.parcel(1, 1, 400);
        x.find(1, 0, 0, 199);
        c.due("not by a neighbour alone", 1, x.suspects());
        x.rise(201);
        c.due("not at what the law leaves", 1, x.suspects());
        x.rise(200);
        c.due("by a neighbour and the law", 2, x.suspects());
        TributePitches z = Mines.let(0, 240);
        z.parcel(0, 1, 500);
        Mines.row(z, 0, 2, 499);
        z.chart(0, 2, 0, 1, 0);
        c.due("by a chart", 1, z.suspects());
    }

    private static void suspectsFromNoneToAll(Checks c) {
        c.due("of none", 0, new TributePitches().suspects());
        TributePitches x = Mines.let(0, 240);
        for (int i = 0; i < 80; i++) x.parcel(0, 1, 1 + i);
        c.due("none of 80", 0, x.suspects());
        x.find(0, 0, 0, 79);
        c.due("the last of 80", 1, x.suspects());
        c.due("it", 79, x.suspect(0));
        x.find(0, 0, 0, 1);
        c.due("all but the first", 79, x.suspects());
        x.find(0, 0, 0, 0);
        c.due("all of 80", 80, x.suspects());
        c.due("the first", 0, x.suspect(0));
        c.due("the last", 79, x.suspect(79));
        c.due("no more", TributePitches.UNKNOWN, x.suspect(80));
    }

    private static void suspectsByNumber(Checks c) {
        TributePitches x = Mines.let(0, 240);
        x.find(0, 0, 0, 10);
        for (int good : new int[] {1000, 10, 12, 0, 11, 9}) x.parcel(0, 1, good);
        int[] want = {0, 2, 4};
        for (int i = 0; i < 3; i++) c.due("suspect " + i, want[i], x.suspect(i));
        x.pitch(1, 0, 1, 0, 1);
        x.find(1, 0, 0, 5);
        Mines.take(x, 0, 1, 240);
        x.parcel(1, 1, 6);
        x.parcel(0, 1, 11);
        c.due("of another pitch", 6, x.suspect(3));
        c.due("of the first again", 7, x.suspect(4));
    }

    private static void suspectAtNoPlace(Checks c) {
        c.due("of none", TributePitches.UNKNOWN, new TributePitches().suspect(0));
        TributePitches x = Mines.let(0, 240);
        x.parcel(0, 1, 5);
        c.due("of none that is suspect", TributePitches.UNKNOWN, x.suspect(0));
        x.find(0, 0, 0, 4);
        c.due("the only one", 0, x.suspect(0));
        for (int i : new int[] {-1, 1, 79, 80, MIN, MAX}) c.due("at " + i, TributePitches.UNKNOWN, x.suspect(i));
    }

    // ---- promise 21

    private static void skillIsOfSettledTakes(Checks c) {
        TributePitches x = Mines.let(0, 240);
        x.find(0, 0, 100, 200);
        x.parcel(0, 9, 100);
        c.skill(x, 0, 0, 1);
        x.settle(0);
        // f was 3 * 1000, y is 1800.
        c.skill(x, 0, 3, 5);
        Mines.take(x, 0, 0, 240);
        x.parcel(1, 1, 1);
        c.skill(x, 0, 3, 5);
        x.gang(0);
        c.skill(x, 1, 0, 1);
    }

    private static void skillIsByWhatWasForetold(Checks c) {
        TributePitches x = Mines.small(0);
        x.find(0, 0, 100, 200);
        Mines.take(x, 0, 0, 240);
        x.find(0, 0, 150, 150);
        x.parcel(0, 9, 50);
        x.settle(0);
        c.skill(x, 0, 1, 1);
        x.find(0, 0, 150, 150);
        c.skill(x, 0, 1, 1);
        TributePitches z = Mines.small(0);
        z.find(0, 0, 100, 300);
        Mines.take(z, 0, 0, 240);
        z.find(0, 0, 100, 100);
        z.parcel(0, 9, 50);
        z.settle(0);
        c.skill(z, 0, 3, 4);
    }

    private static void skillLeavesOutTheWorthless(Checks c) {
        TributePitches x = Mines.small(0);
        x.find(0, 0, 0, 0);
        Mines.take(x, 0, 0, 240);
        x.parcel(0, 10, 10);
        x.settle(0);
        c.skill(x, 0, 0, 1);
        x.pitch(1, 0, 1, 0, 1);
        x.find(1, 0, 0, 1);
        Mines.take(x, 0, 1, 240);
        x.parcel(1, 1, 7);
        x.settle(1);
        // Of the other TAKE f is 1, and y is 14.
        c.skill(x, 0, 14, 1);
    }

    private static void skillOfTheGreatestSums(Checks c) {
        TributePitches x = new TributePitches();
        x.gang(0);
        x.pitch(0, 0, 7, 5, 100);
        x.rise(0);
        x.find(0, 0, 999, 1000);
        for (int t = 0; t < 40; t++) {
            Mines.take(x, 0, 0, 240);
            x.parcel(t, 1000, 1000);
            x.parcel(t, 997, t == 0 ? 991 : 1000);
            x.settle(t);
        }
        long f = 100L * 48 * 1999, worths = 39L * 1997000 + 1000000 + 997 * 991;
        // Both sums hold f once; what is left is 2 worths by 40 f.
        long common = gcd(2 * worths, 40 * f);
        c.skill(x, 0, 2 * worths / common, 40 * f / common);
    }

    private static long gcd(long a, long b) {
        return b == 0 ? a : gcd(b, a % b);
    }

    private static void skillIsInLeastTerms(Checks c) {
        int[][] rows = {{1, 500, 1, 3}, {3, 500, 1, 1}, {3, 1000, 2, 1}, {1, 1, 1, 1500}, {999, 999, 332667, 500},
            {7, 11, 77, 1500}};
        for (int[] row : rows) {
            TributePitches x = Mines.let(0, 240);
            x.parcel(0, row[0], row[1]);
            x.settle(0);
            c.skill(x, 0, row[2], row[3]);
        }
        TributePitches x = Mines.let(0, 240);
        x.settle(0);
        c.skill(x, 0, 0, 1);
    }

    private static void skillOfNone(Checks c) {
        TributePitches x = Mines.small(0);
        c.skill(x, 0, 0, 1);
        x.find(0, 0, 0, 0);
        Mines.take(x, 0, 0, 240);
        c.skill(x, 0, 0, 1);
        x.settle(0);
        c.skill(x, 0, 0, 1);
    }

    private static void skillOfNoGang(Checks c) {
        c.due("of none", TributePitches.LOST, new TributePitches().skill(0, 0));
        TributePitches x = Mines.let(0, 240);
        for (int g : new int[] {-1, 1, 8, MIN, MAX}) {
            c.due("upper of gang " + g, TributePitches.LOST, x.skill(g, 0));
            c.due("lower of gang " + g, TributePitches.LOST, x.skill(g, 1));
        }
    }

    private static void skillOfAnotherNumber(Checks c) {
        TributePitches x = Mines.let(0, 240);
        for (int which : new int[] {-1, 2, MIN, MAX}) c.due("skill " + which, TributePitches.LOST, x.skill(0, which));
        c.skill(x, 0, 0, 1);
    }
}
