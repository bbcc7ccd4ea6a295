/** Promises 13 to 21: parcel, spend, settle, taken, money, debt, suspects, suspect, skill. */
public final class TakesTest {
    private static final int MIN = Integer.MIN_VALUE, MAX = Integer.MAX_VALUE;
    private static final Checks c = new Checks();

    public static void main(String[] args) {
        parcelsAreWeighed();
        parcelRefuses();
        parcelsAreEighty();
        spendAddsUp();
        spendIsLost();
        settlePaysTheShare();
        settleOfAGang();
        settleOfAFamily();
        settleOfOldHands();
        settleAtTheEdgeOfDebt();
        settleIsLost();
        settleUnletsThePitch();
        takenTells();
        moneyTells();
        debtIsOfEachGang();
        suspectsAreOfThePitch();
        suspectsFollowTheSpans();
        suspectsAreToldByNumber();
        skillIsAFraction();
        skillLeavesOut();
        skillOfTheGreatest();
        c.close();
    }

    private static void parcelsAreWeighed() {
        TributePitches x = mine(0);
        take(x, 240, 0);
        c.due("parcel", 0, x.parcel(0, 1, 0));
        c.due("its worth", 0, x.money(0, 0));
        c.due("parcel", 1, x.parcel(0, 1000, 1000));
        c.due("its worth", 1000000, x.money(0, 0));
        c.due("parcel", 2, x.parcel(0, 3, 7));
        c.due("their worth", 1000021, x.money(0, 0));
        c.due("told parcels", 3, x.told(3));
        c.due("parcels of the take", 3, x.taken(0, 4));
    }

    private static void parcelRefuses() {
        TributePitches x = mine(0);
        c.due("parcel of none", TributePitches.UNKNOWN, x.parcel(0, 1, 1));
        take(x, 240, 0);
        for (int t : new int[] {-1, 1, MIN, MAX}) {
            c.due("parcel of no take", TributePitches.UNKNOWN, x.parcel(t, 1, 1));
            c.due("parcel of no take, outside", TributePitches.UNKNOWN, x.parcel(t, 0, 1));
        }
        for (int tons : new int[] {0, 1001, -1, MIN, MAX}) {
            c.due("parcel of other tons", TributePitches.OUTSIDE, x.parcel(0, tons, 1));
        }
        for (int good : new int[] {-1, 1001, MIN, MAX}) {
            c.due("parcel of other goodness", TributePitches.OUTSIDE, x.parcel(0, 1, good));
        }
        x.settle(0);
        c.due("parcel of a settled take", TributePitches.STATE, x.parcel(0, 1, 1));
        c.due("parcel of a settled take, outside", TributePitches.OUTSIDE, x.parcel(0, 1, -1));
        c.due("no parcel came of it", 0, x.told(3));
        c.due("no worth came of it", 0, x.money(0, 0));
        c.due("none is of the take", 0, x.taken(0, 4));
    }

    private static void parcelsAreEighty() {
        TributePitches x = mine(0);
        take(x, 240, 0);
        for (int i = 0; i < 80; i++) c.due("parcel " + i, i, x.parcel(0, 1000, 1000));
        c.due("one more", TributePitches.FULL, x.parcel(0, 1, 1));
        c.due("one more outside", TributePitches.OUTSIDE, x.parcel(0, 0, 1));
        c.due("told parcels", 80, x.told(3));
        c.due("the worth", 80000000, x.money(0, 0));
        c.due("settle", 80000000, x.settle(0));
        c.due("one more of a settled take", TributePitches.STATE, x.parcel(0, 1, 1));
    }

    private static void spendAddsUp() {
        TributePitches x = mine(0);
        take(x, 240, 0);
        c.due("spend nothing", 0, x.spend(0, 0, 0));
        c.due("spend the most", 100000, x.spend(0, 0, 100000));
        c.due("spend more", 100001, x.spend(0, 0, 1));
        c.due("ahead apart", 7, x.spend(0, 1, 7));
        c.due("ahead more", 100007, x.spend(0, 1, 100000));
        c.due("costs", 100001, x.money(0, 1));
        c.due("ahead", 100007, x.money(0, 2));
        for (int i = 0; i < 400; i++) x.spend(0, 0, 100000);
        c.due("costs in the end", 40100001, x.money(0, 1));
    }

    private static void spendIsLost() {
        TributePitches x = mine(0);
        c.due("spend of none", TributePitches.LOST, x.spend(0, 0, 1));
        take(x, 240, 0);
        for (int t : new int[] {-1, 1, MIN, MAX}) c.due("spend of no take", TributePitches.LOST, x.spend(t, 0, 1));
        for (int what : new int[] {-1, 2, MIN, MAX}) {
            c.due("spend on something else", TributePitches.LOST, x.spend(0, what, 1));
        }
        for (int pence : new int[] {-1, 100001, MIN, MAX}) {
            c.due("spend other pence", TributePitches.LOST, x.spend(0, 0, pence));
            c.due("spend other pence", TributePitches.LOST, x.spend(0, 1, pence));
        }
        c.due("costs are as they were", 0, x.money(0, 1));
        c.due("ahead is as it was", 0, x.money(0, 2));
        x.settle(0);
        c.due("spend when settled", TributePitches.LOST, x.spend(0, 0, 1));
        c.due("ahead when settled", TributePitches.LOST, x.spend(0, 1, 1));
        c.due("costs are as they were", 0, x.money(0, 1));
        c.due("ahead is as it was", 0, x.money(0, 2));
    }

    private static void settlePaysTheShare() {
        int[][] rows = {{1, 239, 0}, {1, 240, 1}, {239, 1, 0}, {239, 2, 1}, {240, 7, 7}, {120, 3, 1}, {80, 10, 3}};
        for (int[] row : rows) {
            TributePitches x = mine(0);
            take(x, row[0], 0);
            x.parcel(0, row[1], 1);
            c.due("settle by " + row[0] + " of " + row[1], row[2], x.settle(0));
        }
        // The sum of WORTHS is shared, not each WORTH.
        TributePitches x = mine(0);
        take(x, 120, 0);
        x.parcel(0, 1, 1);
        x.parcel(0, 1, 1);
        c.due("settle two parcels", 1, x.settle(0));
    }

    private static void settleOfAGang() {
        TributePitches x = mine(0);
        take(x, 240, 0);
        x.spend(0, 0, 101);
        x.spend(0, 1, 50);
        c.due("settle below 0", 0, x.settle(0));
        c.due("debt", 151, x.debt(0));
        c.due("pay", 0, x.money(0, 3));
        take(x, 240, 1);
        x.parcel(1, 100, 1);
        c.due("settle with less than the debt", 0, x.settle(1));
        c.due("debt", 51, x.debt(0));
        take(x, 240, 2);
        x.parcel(2, 100, 1);
        x.spend(2, 0, 9);
        c.due("settle with more than the debt", 40, x.settle(2));
        c.due("debt", 0, x.debt(0));
        c.due("pay", 40, x.money(2, 3));
    }

    private static void settleOfAFamily() {
        TributePitches x = mine(1);
        take(x, 240, 0);
        x.spend(0, 0, 101);
        x.spend(0, 1, 51);
        c.due("settle below 0", 0, x.settle(0));
        c.due("debt: half the costs, all that was ahead", 101, x.debt(0));
        take(x, 240, 1);
        x.parcel(1, 200, 1);
        c.due("settle: all of the debt", 99, x.settle(1));
        c.due("debt", 0, x.debt(0));
    }

    private static void settleOfOldHands() {
        TributePitches x = mine(2);
        take(x, 240, 0);
        x.spend(0, 0, 103);
        x.spend(0, 1, 50);
        c.due("settle below 0", 0, x.settle(0));
        c.due("debt: half the costs, all that was ahead", 101, x.debt(0));
        take(x, 240, 1);
        x.parcel(1, 200, 1);
        c.due("settle: half of the debt", 150, x.settle(1));
        c.due("the other half stays", 51, x.debt(0));
        take(x, 240, 2);
        x.spend(2, 1, 4);
        c.due("settle below 0", 0, x.settle(2));
        c.due("all in all as much as both", 55, x.debt(0));
        take(x, 240, 3);
        x.parcel(3, 20, 1);
        c.due("settle with less than the half", 0, x.settle(3));
        c.due("what stays, and what was short", 35, x.debt(0));
    }

    private static void settleAtTheEdgeOfDebt() {
        TributePitches x = mine(0);
        take(x, 240, 0);
        x.parcel(0, 10, 1);
        x.spend(0, 0, 10);
        c.due("settle at 0", 0, x.settle(0));
        c.due("no debt", 0, x.debt(0));
        take(x, 240, 1);
        x.parcel(1, 10, 1);
        x.spend(1, 0, 11);
        c.due("settle at -1", 0, x.settle(1));
        c.due("debt of 1", 1, x.debt(0));
        take(x, 240, 2);
        x.parcel(2, 10, 1);
        x.spend(2, 0, 8);
        c.due("settle at 1", 1, x.settle(2));
        c.due("no debt", 0, x.debt(0));
        TributePitches old = mine(2);
        take(old, 240, 0);
        old.spend(0, 1, 1);
        old.settle(0);
        c.due("debt of 1", 1, old.debt(0));
        take(old, 240, 1);
        old.parcel(1, 5, 1);
        c.due("half of 1 is 0", 5, old.settle(1));
        c.due("debt of 1 stays", 1, old.debt(0));
    }

    private static void settleIsLost() {
        TributePitches x = mine(0);
        c.due("settle none", TributePitches.LOST, x.settle(0));
        take(x, 240, 0);
        for (int t : new int[] {-1, 1, MIN, MAX}) c.due("settle no take", TributePitches.LOST, x.settle(t));
        x.spend(0, 0, 5);
        x.settle(0);
        c.due("settle again", TributePitches.LOST, x.settle(0));
        c.due("debt is as it was", 5, x.debt(0));
    }

    private static void settleUnletsThePitch() {
        TributePitches x = mine(0);
        take(x, 240, 0);
        c.due("let", 0, x.about(0, 5));
        x.settle(0);
        c.due("unlet", TributePitches.NONE, x.about(0, 5));
        take(x, 240, 1);
        c.due("let again", 1, x.about(0, 5));
        c.due("settle the first again", TributePitches.LOST, x.settle(0));
        c.due("still let", 1, x.about(0, 5));
    }

    private static void takenTells() {
        TributePitches x = mine(0);
        x.gang(1);
        x.pitch(1, 0, 1, 0, 1);
        c.due("taken of none", TributePitches.UNKNOWN, x.taken(0, 0));
        x.auction(1, 240);
        x.bid(1, 200);
        x.strike();
        x.parcel(0, 1, 1);
        int[] want = {1, 1, 200, 0, 1};
        for (int what = 0; what < 5; what++) c.due("taken " + what, want[what], x.taken(0, what));
        x.settle(0);
        want[3] = 1;
        for (int what = 0; what < 5; what++) c.due("settled: taken " + what, want[what], x.taken(0, what));
        for (int t : new int[] {-1, 1, MIN, MAX}) {
            c.due("taken of no take", TributePitches.UNKNOWN, x.taken(t, 0));
            c.due("taken of no take, outside", TributePitches.UNKNOWN, x.taken(t, 5));
        }
        for (int what : new int[] {-1, 5, MIN, MAX}) {
            c.due("taken outside", TributePitches.OUTSIDE, x.taken(0, what));
        }
    }

    private static void moneyTells() {
        TributePitches x = mine(0);
        c.due("money of none", TributePitches.LOST, x.money(0, 0));
        x.find(0, 0, 5, 900);
        take(x, 120, 0);
        x.parcel(0, 10, 11);
        x.spend(0, 0, 3);
        x.spend(0, 1, 4);
        x.find(0, 0, 6, 800);
        long[] want = {110, 3, 4, 0, 15, 2700};
        for (int what = 0; what < 6; what++) c.due("money " + what, want[what], x.money(0, what));
        x.settle(0);
        want[3] = 48;
        for (int what = 0; what < 6; what++) c.due("settled: money " + what, want[what], x.money(0, what));
        for (int t : new int[] {-1, 1, MIN, MAX}) c.due("money of no take", TributePitches.LOST, x.money(t, 0));
        for (int what : new int[] {-1, 6, MIN, MAX}) c.due("money outside", TributePitches.LOST, x.money(0, what));
    }

    private static void debtIsOfEachGang() {
        TributePitches x = mine(0);
        x.gang(0);
        take(x, 240, 0);
        x.spend(0, 0, 5);
        x.settle(0);
        c.due("debt of one", 5, x.debt(0));
        c.due("debt of the other", 0, x.debt(1));
        for (int g : new int[] {-1, 2, 8, MIN, MAX}) c.due("debt of no gang", TributePitches.LOST, x.debt(g));
    }

    private static void suspectsAreOfThePitch() {
        TributePitches x = new TributePitches();
        x.gang(0);
        x.pitch(0, 0, 1, 1, 1);
        x.pitch(2, 0, 3, 0, 1);
        x.find(0, 0, 0, 10);
        x.find(1, 0, 0, 20);
        x.find(0, 1, 0, 15);
        x.find(1, 1, 0, 5);
        x.auction(0, 240);
        x.bid(0, 240);
        x.strike();
        x.parcel(0, 1, 20);
        c.due("as good as the best square", 0, x.suspects());
        x.parcel(0, 1, 21);
        c.due("better than the best square", 1, x.suspects());
        c.due("it", 1, x.suspect(0));
        x.auction(1, 240);
        x.bid(0, 240);
        x.strike();
        x.parcel(1, 1, 1000);
        c.due("of another pitch", 1, x.suspects());
    }

    private static void suspectsFollowTheSpans() {
        TributePitches x = mine(0);
        take(x, 240, 0);
        x.parcel(0, 1, 500);
        c.due("not yet", 0, x.suspects());
        c.due("none yet", TributePitches.UNKNOWN, x.suspect(0));
        x.find(0, 0, 0, 500);
        c.due("not at it", 0, x.suspects());
        x.settle(0);
        x.find(0, 0, 0, 499);
        c.due("settled, too", 1, x.suspects());
        c.due("settled, too", 0, x.suspect(0));
        take(x, 240, 1);
        x.parcel(1, 1, 400);
        x.find(1, 0, 0, 100);
        c.due("not by a neighbour alone", 1, x.suspects());
        x.rise(200);
        c.due("by a neighbour and the law", 2, x.suspects());
    }

    private static void suspectsAreToldByNumber() {
        TributePitches x = mine(0);
        c.due("suspect of none", TributePitches.UNKNOWN, x.suspect(0));
        x.find(0, 0, 0, 10);
        take(x, 240, 0);
        int[] good = {11, 10, 12, 0, 1000, 9};
        for (int g : good) x.parcel(0, 1, g);
        c.due("suspects", 3, x.suspects());
        c.due("suspect 0", 0, x.suspect(0));
        c.due("suspect 1", 2, x.suspect(1));
        c.due("suspect 2", 4, x.suspect(2));
        for (int i : new int[] {-1, 3, MIN, MAX}) c.due("no suspect", TributePitches.UNKNOWN, x.suspect(i));
        x.find(0, 0, 0, 0);
        x.parcel(0, 1, 1);
        c.due("of a pitch that is worth nothing, all but the worthless", 6, x.suspects());
        c.due("the last suspect", 6, x.suspect(5));
    }

    private static void skillIsAFraction() {
        TributePitches x = mine(0);
        skill(x, 0, 0, 1);
        x.find(0, 0, 100, 200);
        take(x, 240, 0);
        x.parcel(0, 9, 50);
        skill(x, 0, 0, 1);
        x.settle(0);
        // f = 3 * 100 + 3 * 200, y = 2 * 450: as good as foretold.
        skill(x, 0, 1, 1);
        x.find(0, 0, 100, 100);
        take(x, 240, 1);
        x.parcel(1, 4, 100);
        x.settle(1);
        // f = 600, y = 800: (900 * 900 + 600 * 800) by (900 * 900 + 600 * 600), 129 by 117.
        skill(x, 0, 43, 39);
        take(x, 240, 2);
        skill(x, 0, 43, 39);
        x.settle(2);
        // f = 600, y = 0: 129 by 153.
        skill(x, 0, 43, 51);
        for (int g : new int[] {-1, 1, MIN, MAX}) c.due("skill of no gang", TributePitches.LOST, x.skill(g, 0));
        for (int which : new int[] {-1, 2, MIN, MAX}) {
            c.due("skill outside", TributePitches.LOST, x.skill(0, which));
        }
    }

    private static void skillLeavesOut() {
        TributePitches x = mine(0);
        x.gang(2);
        x.pitch(1, 0, 1, 0, 1);
        x.find(1, 0, 0, 0);
        x.auction(1, 240);
        x.bid(0, 240);
        x.strike();
        x.parcel(0, 10, 10);
        x.settle(0);
        skill(x, 0, 0, 1);
        take(x, 240, 1);
        x.settle(1);
        // Nothing came of it: 0 by something, in least terms.
        skill(x, 0, 0, 1);
        x.auction(0, 240);
        x.bid(1, 240);
        x.strike();
        x.parcel(2, 10, 100);
        x.settle(2);
        skill(x, 0, 0, 1);
        skill(x, 1, 2, 3);
    }

    private static void skillOfTheGreatest() {
        TributePitches x = new TributePitches();
        x.gang(0);
        x.pitch(0, 0, 7, 5, 100);
        x.rise(0);
        x.find(0, 0, 999, 1000);
        for (int t = 0; t < 40; t++) {
            take(x, 240, t);
            x.parcel(t, 1000, 1000);
            x.parcel(t, 997, t == 0 ? 991 : 1000);
            x.settle(t);
        }
        long f = 100L * 48 * 1999, worths = 39L * 1997000 + 1000000 + 997 * 991;
        // Both sums hold f once; what is left is 2 worths by 40 f.
        long common = gcd(2 * worths, 40 * f);
        skill(x, 0, 2 * worths / common, 40 * f / common);
    }

    private static long gcd(long a, long b) {
        return b == 0 ? a : gcd(b, a % b);
    }

    private static void skill(TributePitches x, int g, long upper, long lower) {
        c.due("skill, upper", upper, x.skill(g, 0));
        c.due("skill, lower", lower, x.skill(g, 1));
    }

    /** One GANG of a kind, and a PITCH of one SQUARE and 3 TONS. */
    private static TributePitches mine(int kind) {
        TributePitches x = new TributePitches();
        x.gang(kind);
        x.pitch(0, 0, 0, 0, 3);
        return x;
    }

    private static void take(TributePitches x, int share, int t) {
        x.auction(0, share);
        x.bid(0, share);
        c.due("strike", t, x.strike());
    }
}
