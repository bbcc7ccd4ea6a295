/** Promises 13 to 21, what is asked for every day: parcel, spend, settle, taken, money, debt, suspect, skill. */
public final class TakesTest {
    private static final Checks c = new Checks();

    public static void main(String[] args) {
        parcelsAreWeighed();
        spendAddsUp();
        settlePaysTheShare();
        settleOfAGang();
        settleOfAFamily();
        settleOfOldHands();
        takenTells();
        moneyTells();
        debtIsOfEachGang();
        suspectsAreOfThePitch();
        suspectsAreToldByNumber();
        skillIsAFraction();
        skillLeavesOut();
        c.close();
    }

    private static void parcelsAreWeighed() {
        TributePitches x = Mines.small(0);
        c.due("strike", 0, Mines.take(x, 0, 0, 240));
        c.due("parcel", 0, x.parcel(0, 1, 0));
        c.due("its worth", 0, x.money(0, 0));
        c.due("parcel", 1, x.parcel(0, 1000, 1000));
        c.due("its worth", 1000000, x.money(0, 0));
        c.due("parcel", 2, x.parcel(0, 3, 7));
        c.due("their worth", 1000021, x.money(0, 0));
        c.due("told parcels", 3, x.told(3));
        c.due("parcels of the take", 3, x.taken(0, 4));
    }

    private static void spendAddsUp() {
        TributePitches x = Mines.small(0);
        c.due("strike", 0, Mines.take(x, 0, 0, 240));
        c.due("spend nothing", 0, x.spend(0, 0, 0));
        c.due("spend the most", 100000, x.spend(0, 0, 100000));
        c.due("spend more", 100001, x.spend(0, 0, 1));
        c.due("ahead apart", 7, x.spend(0, 1, 7));
        c.due("ahead more", 100007, x.spend(0, 1, 100000));
        c.due("costs", 100001, x.money(0, 1));
        c.due("ahead", 100007, x.money(0, 2));
    }

    private static void settlePaysTheShare() {
        int[][] rows = {{1, 239, 0}, {1, 240, 1}, {239, 1, 0}, {239, 2, 1}, {240, 7, 7}, {120, 3, 1}, {80, 10, 3}};
        for (int[] row : rows) {
            TributePitches x = Mines.small(0);
            c.due("strike", 0, Mines.take(x, 0, 0, row[0]));
            x.parcel(0, row[1], 1);
            c.due("settle by " + row[0] + " of " + row[1], row[2], x.settle(0));
        }
        // The sum of WORTHS is shared, not each WORTH.
        TributePitches x = Mines.small(0);
        c.due("strike", 0, Mines.take(x, 0, 0, 120));
        x.parcel(0, 1, 1);
        x.parcel(0, 1, 1);
        c.due("settle two parcels", 1, x.settle(0));
    }

    private static void settleOfAGang() {
        TributePitches x = Mines.small(0);
        c.due("strike", 0, Mines.take(x, 0, 0, 240));
        x.spend(0, 0, 101);
        x.spend(0, 1, 50);
        c.due("settle below 0", 0, x.settle(0));
        c.due("debt", 151, x.debt(0));
        c.due("pay", 0, x.money(0, 3));
        c.due("strike", 1, Mines.take(x, 0, 0, 240));
        x.parcel(1, 100, 1);
        c.due("settle with less than the debt", 0, x.settle(1));
        c.due("debt", 51, x.debt(0));
        c.due("strike", 2, Mines.take(x, 0, 0, 240));
        x.parcel(2, 100, 1);
        x.spend(2, 0, 9);
        c.due("settle with more than the debt", 40, x.settle(2));
        c.due("debt", 0, x.debt(0));
        c.due("pay", 40, x.money(2, 3));
    }

    private static void settleOfAFamily() {
        TributePitches x = Mines.small(1);
        c.due("strike", 0, Mines.take(x, 0, 0, 240));
        x.spend(0, 0, 101);
        x.spend(0, 1, 51);
        c.due("settle below 0", 0, x.settle(0));
        c.due("debt: half the costs, all that was ahead", 101, x.debt(0));
        c.due("strike", 1, Mines.take(x, 0, 0, 240));
        x.parcel(1, 200, 1);
        c.due("settle: all of the debt", 99, x.settle(1));
        c.due("debt", 0, x.debt(0));
    }

    private static void settleOfOldHands() {
        TributePitches x = Mines.small(2);
        c.due("strike", 0, Mines.take(x, 0, 0, 240));
        x.spend(0, 0, 103);
        x.spend(0, 1, 50);
        c.due("settle below 0", 0, x.settle(0));
        c.due("debt: half the costs, all that was ahead", 101, x.debt(0));
        c.due("strike", 1, Mines.take(x, 0, 0, 240));
        x.parcel(1, 200, 1);
        c.due("settle: half of the debt", 150, x.settle(1));
        c.due("the other half stays", 51, x.debt(0));
        c.due("strike", 2, Mines.take(x, 0, 0, 240));
        x.spend(2, 1, 4);
        c.due("settle below 0", 0, x.settle(2));
        c.due("all in all as much as both", 55, x.debt(0));
        c.due("strike", 3, Mines.take(x, 0, 0, 240));
        x.parcel(3, 20, 1);
        c.due("settle with less than the half", 0, x.settle(3));
        c.due("what stays, and what was short", 35, x.debt(0));
    }

    private static void takenTells() {
        TributePitches x = Mines.small(0);
        x.gang(1);
        x.pitch(1, 0, 1, 0, 1);
        x.auction(1, 240);
        x.bid(1, 200);
        x.strike();
        x.parcel(0, 1, 1);
        int[] want = {1, 1, 200, 0, 1};
        for (int what = 0; what < 5; what++) c.due("taken " + what, want[what], x.taken(0, what));
        x.settle(0);
        want[3] = 1;
        for (int what = 0; what < 5; what++) c.due("settled: taken " + what, want[what], x.taken(0, what));
    }

    private static void moneyTells() {
        TributePitches x = Mines.small(0);
        x.find(0, 0, 5, 900);
        c.due("strike", 0, Mines.take(x, 0, 0, 120));
        x.parcel(0, 10, 11);
        x.spend(0, 0, 3);
        x.spend(0, 1, 4);
        x.find(0, 0, 6, 800);
        long[] want = {110, 3, 4, 0, 15, 2700};
        for (int what = 0; what < 6; what++) c.due("money " + what, want[what], x.money(0, what));
        x.settle(0);
        want[3] = 48;
        for (int what = 0; what < 6; what++) c.due("settled: money " + what, want[what], x.money(0, what));
    }

    private static void debtIsOfEachGang() {
        TributePitches x = Mines.small(0);
        x.gang(0);
        c.due("strike", 0, Mines.take(x, 0, 0, 240));
        x.spend(0, 0, 5);
        x.settle(0);
        c.due("debt of one", 5, x.debt(0));
        c.due("debt of the other", 0, x.debt(1));
    }

    private static void suspectsAreOfThePitch() {
        TributePitches x = new TributePitches();
        x.gang(0);
        x.pitch(0, 0, 1, 1, 1);
        x.pitch(2, 0, 3, 0, 1);
        x.find(0, 0, 0, 10);
        x.find(1, 0, 0, 20);
        x.find(0, 1, 0, 15);
        x.find(1, 1, 0, 5);
        Mines.take(x, 0, 0, 240);
        x.parcel(0, 1, 20);
        c.due("as good as the best square", 0, x.suspects());
        x.parcel(0, 1, 21);
        c.due("better than the best square", 1, x.suspects());
        c.due("it", 1, x.suspect(0));
        Mines.take(x, 0, 1, 240);
        x.parcel(1, 1, 1000);
        c.due("of another pitch", 1, x.suspects());
    }

    private static void suspectsAreToldByNumber() {
        TributePitches x = Mines.small(0);
        x.find(0, 0, 0, 10);
        c.due("strike", 0, Mines.take(x, 0, 0, 240));
        int[] good = {11, 10, 12, 0, 1000, 9};
        for (int g : good) x.parcel(0, 1, g);
        c.due("suspects", 3, x.suspects());
        c.due("suspect 0", 0, x.suspect(0));
        c.due("suspect 1", 2, x.suspect(1));
        c.due("suspect 2", 4, x.suspect(2));
    }

    private static void skillIsAFraction() {
        TributePitches x = Mines.small(0);
        c.skill(x, 0, 0, 1);
        x.find(0, 0, 100, 200);
        c.due("strike", 0, Mines.take(x, 0, 0, 240));
        x.parcel(0, 9, 50);
        c.skill(x, 0, 0, 1);
        x.settle(0);
        // f = 3 * 100 + 3 * 200, y = 2 * 450: as good as foretold.
        c.skill(x, 0, 1, 1);
        x.find(0, 0, 100, 100);
        c.due("strike", 1, Mines.take(x, 0, 0, 240));
        x.parcel(1, 4, 100);
        x.settle(1);
        // f = 600, y = 800: (900 * 900 + 600 * 800) by (900 * 900 + 600 * 600), 129 by 117.
        c.skill(x, 0, 43, 39);
        c.due("strike", 2, Mines.take(x, 0, 0, 240));
        c.skill(x, 0, 43, 39);
        x.settle(2);
        // f = 600, y = 0: 129 by 153.
        c.skill(x, 0, 43, 51);
    }

    private static void skillLeavesOut() {
        TributePitches x = Mines.small(0);
        x.gang(2);
        x.pitch(1, 0, 1, 0, 1);
        x.find(1, 0, 0, 0);
        Mines.take(x, 0, 1, 240);
        x.parcel(0, 10, 10);
        x.settle(0);
        c.skill(x, 0, 0, 1);
        c.due("strike", 1, Mines.take(x, 0, 0, 240));
        x.settle(1);
        // Nothing came of it: 0 by something, in least terms.
        c.skill(x, 0, 0, 1);
        Mines.take(x, 1, 0, 240);
        x.parcel(2, 10, 100);
        x.settle(2);
        c.skill(x, 0, 0, 1);
        c.skill(x, 1, 2, 3);
    }
}
