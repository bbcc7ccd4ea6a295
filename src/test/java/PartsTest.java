/** Promises 27 to 32, what is asked for every day: tell, greet, as, trace, fault, told. */
public final class PartsTest {
    private static final Checks c = new Checks();

    public static void main(String[] args) {
        tellGoesByKind();
        tellCountsTakes();
        greetGoesByKind();
        asTakesByKind();
        traceFolds();
        faultStaysOverOtherCalls();
        toldTells();
        c.close();
    }

    private static void tellGoesByKind() {
        int[] telling = {0, 10, 0}, trace = {1, 2 * 31 + 1, 3 * 31 + 1};
        for (int kind = 0; kind < 3; kind++) {
            TributePitches x = new TributePitches();
            x.gang(kind);
            c.due("tell kind " + kind, telling[kind], x.tell(0));
            c.due("trace of kind " + kind, trace[kind], x.trace());
        }
    }

    private static void tellCountsTakes() {
        TributePitches x = new TributePitches();
        x.pitch(0, 0, 0, 0, 1);
        for (int kind = 0; kind < 3; kind++) x.gang(kind);
        int take = 0;
        for (int g = 0; g < 3; g++) {
            for (int t = 0; t < 2; t++) {
                x.auction(0, 240);
                x.bid(g, 240);
                x.strike();
                c.due("tell with a take", new int[] {t + 1, 11 + t, 3 * (t + 1)}[g], x.tell(g));
                x.settle(take++);
            }
        }
        c.due("tell gang", 2, x.tell(0));
        c.due("tell family", 12, x.tell(1));
        c.due("tell old hands", 6, x.tell(2));
    }

    private static void greetGoesByKind() {
        TributePitches x = new TributePitches();
        int[] kinds = {0, 1, 2, 0, 1, 2, 0, 0};
        int[] greeting = {0, 6, 7, 30, 6, 7, 60, 70};
        int[][] bodies = {{4}, {5}, {6, 5}};
        for (int kind : kinds) x.gang(kind);
        int trace = 0;
        for (int g = 0; g < 8; g++) {
            c.due("greet " + g, greeting[g], x.greet(g));
            for (int body : bodies[kinds[g]]) trace = 31 * trace + body;
            c.due("trace of greeting " + g, trace, x.trace());
        }
    }

    private static void asTakesByKind() {
        TributePitches x = new TributePitches();
        for (int kind = 0; kind < 3; kind++) x.gang(kind);
        for (int g = 0; g < 3; g++) {
            for (int kind = 0; kind < 3; kind++) {
                c.due("gang " + g + " as " + kind, kind <= g ? 1 : -12, x.as(g, kind));
                c.due("its fault", kind <= g ? 0 : 2, x.fault());
            }
        }
        c.due("no trace", 0, x.trace());
    }

    private static void traceFolds() {
        TributePitches x = new TributePitches();
        c.due("trace at first", 0, x.trace());
        x.gang(2);
        x.tell(0);
        x.greet(0);
        c.due("trace of 3, 1, 6, 5", ((3 * 31 + 1) * 31 + 6) * 31 + 5, x.trace());
        c.due("trace again", ((3 * 31 + 1) * 31 + 6) * 31 + 5, x.trace());
    }

    private static void faultStaysOverOtherCalls() {
        TributePitches x = new TributePitches();
        x.as(0, 0);
        x.gang(0);
        x.as(0, 1);
        x.find(0, 0, 5, 6);
        x.find(9, 9, 5, 6);
        x.rise(900);
        x.good(0, 0, 0);
        x.pitch(0, 0, 0, 0, 1);
        x.foretold(0, 0);
        x.gang(1);
        x.gang(7);
        x.auction(0, 9);
        x.bid(0, 9);
        x.strike();
        x.about(0, 0);
        x.parcel(0, 1, 1);
        x.spend(0, 0, 1);
        x.settle(0);
        x.taken(0, 0);
        x.money(0, 0);
        x.debt(0);
        x.suspects();
        x.suspect(0);
        x.skill(0, 0);
        x.lose(0);
        x.lose(4);
        x.tell(0);
        x.greet(0);
        x.trace();
        x.told(0);
        c.due("fault over calls that name none", 2, x.fault());
    }

    private static void toldTells() {
        TributePitches x = new TributePitches();
        told(x, 0, 0, 0, 0, 1000, -9, -9, -9);
        x.pitch(0, 0, 0, 0, 1);
        x.pitch(1, 0, 1, 0, 1);
        x.gang(0);
        x.gang(1);
        x.gang(2);
        x.rise(7);
        told(x, 2, 3, 0, 0, 7, -9, -9, -9);
        x.auction(1, 99);
        told(x, 2, 3, 0, 0, 7, 0, 1, 99);
        x.bid(2, 98);
        told(x, 2, 3, 0, 0, 7, 1, 1, 98);
        x.bid(1, 50);
        told(x, 2, 3, 0, 0, 7, 2, 1, 50);
        x.strike();
        told(x, 2, 3, 1, 0, 7, -9, -9, -9);
        x.parcel(0, 1, 1);
        x.parcel(0, 1, 1);
        x.settle(0);
        told(x, 2, 3, 1, 2, 7, -9, -9, -9);
    }

    private static void told(TributePitches x, int... want) {
        for (int what = 0; what < want.length; what++) c.due("told " + what, want[what], x.told(what));
    }
}
