import java.util.Random;

/**
 * Any numbers in any state. Each run asks one object everything, and a twin of it only what was not refused:
 * no call may throw, and in the end both must answer alike.
 */
public final class RefusalsTest {
    private static final int RUNS = 3000, CALLS = 130, METHODS = 31;
    private static final int[] EDGES = {Integer.MIN_VALUE, -1001, -2, -1, 0, 1, 2, 3, 4, 5, 6, 7, 8, 12, 40, 47, 48, 49,
        80, 100, 101, 240, 241, 1000, 1001, 100000, 100001, Integer.MAX_VALUE - 1, Integer.MAX_VALUE};
    private static final Checks c = new Checks();

    public static void main(String[] args) {
        int refused = 0;
        for (int seed = 0; seed < RUNS; seed++) refused += run(new Random(seed));
        c.holds("many calls were refused: " + refused, refused > RUNS * CALLS / 10);
        c.holds("many were not: " + refused, refused < RUNS * CALLS * 9 / 10);
        c.close();
    }

    private static int run(Random random) {
        TributePitches all = new TributePitches(), twin = new TributePitches();
        int refused = 0;
        for (int call = 0; call < CALLS; call++) {
            int method = random.nextInt(METHODS);
            int[] a = new int[5];
            for (int i = 0; i < 5; i++) a[i] = number(random);
            long answer = ask(all, method, a);
            // trace() and cells may well be below 0 without being refused.
            boolean told = method == 28 || method == 23 && answer != TributePitches.LOST;
            if (answer < 0 && answer != TributePitches.NONE && !told) {
                refused++;
                // A cell that is LOST may be either, refused or at fault.
                boolean fault = answer < -10 && answer != TributePitches.LOST;
                if (fault) c.due("fault", -10 - answer, all.fault());
                else if (namesFaults(method) && method != 23) c.due("fault of a refusal", 0, all.fault());
                continue;
            }
            c.due("the twin, asked " + method, answer, ask(twin, method, a));
            if (namesFaults(method)) c.due("fault of what was done", 0, all.fault());
        }
        alike(all, twin);
        return refused;
    }

    /** Mostly a small number, so that much of what is asked can be done. */
    private static int number(Random random) {
        int kind = random.nextInt(12);
        if (kind == 0) return random.nextInt();
        if (kind <= 2) return EDGES[random.nextInt(EDGES.length)];
        return kind <= 9 ? random.nextInt(3) : random.nextInt(9);
    }

    private static boolean namesFaults(int method) {
        return method == 3 || method == 20 || method >= 22 && method <= 24 || method == 27;
    }

    private static long ask(TributePitches x, int method, int[] a) {
        return switch (method) {
            case 0 -> x.find(a[0], a[1], a[2] * 10, 1000 - a[3] * 10);
            case 1 -> x.rise(a[0] < 10 && a[0] >= 0 ? 1000 - 50 * a[0] : a[0]);
            case 2 -> x.good(a[0], a[1], a[2]);
            case 3 -> x.chart(a[0], a[1], a[2], a[3], a[4]);
            case 4 -> x.pitch(a[0], a[1], a[2], a[3], a[4]);
            case 5 -> x.foretold(a[0], a[1]);
            case 6 -> x.gang(a[0]);
            case 7 -> x.auction(a[0], a[1] >= 0 && a[1] < 9 ? 240 - a[1] : a[1]);
            case 8 -> x.bid(a[0], a[1] >= 0 && a[1] < 9 ? x.told(7) - a[1] : a[1]);
            case 9 -> x.strike();
            case 10 -> x.about(a[0], a[1]);
            case 11 -> x.parcel(a[0], a[1], a[2]);
            case 12 -> x.spend(a[0], a[1], a[2]);
            case 13 -> x.settle(a[0]);
            case 14 -> x.taken(a[0], a[1]);
            case 15 -> x.money(a[0], a[1]);
            case 16 -> x.debt(a[0]);
            case 17 -> x.suspects();
            case 18 -> x.suspect(a[0]);
            case 19 -> x.skill(a[0], a[1]);
            case 20 -> x.sheet(a[0], a[1], a[2]);
            case 21 -> x.lose(a[0]);
            case 22 -> x.put(a[0], a[1], a[2]);
            case 23 -> x.cell(a[0], a[1], a[2]);
            case 24 -> x.copy(a[0], a[1], a[2], a[3], a[4]);
            case 25 -> x.tell(a[0]);
            case 26 -> x.greet(a[0]);
            case 27 -> x.as(a[0], a[1]);
            case 28 -> x.trace();
            case 29 -> x.fault() < 0 ? -1 : 0;
            default -> x.told(a[0]);
        };
    }

    private static void alike(TributePitches x, TributePitches twin) {
        same("trace", x.trace(), twin.trace());
        for (int s = 0; s < 48; s++) {
            same("low", x.good(s % 8, s / 8, 0), twin.good(s % 8, s / 8, 0));
            same("high", x.good(s % 8, s / 8, 1), twin.good(s % 8, s / 8, 1));
        }
        for (int what = 0; what < 8; what++) same("told", x.told(what), twin.told(what));
        for (int i = 0; i < 4; i++) {
            for (int what = 0; what < 7; what++) same("about", x.about(i, what), twin.about(i, what));
            for (int what = 0; what < 5; what++) same("taken", x.taken(i, what), twin.taken(i, what));
            for (int what = 0; what < 6; what++) same("money", x.money(i, what), twin.money(i, what));
            same("debt", x.debt(i), twin.debt(i));
            same("skill", x.skill(i, 0), twin.skill(i, 0));
            same("skill", x.skill(i, 1), twin.skill(i, 1));
            for (int lane = 0; lane < 3; lane++) {
                for (int cell = 0; cell < 5; cell++) same("cell", x.cell(i, cell, lane), twin.cell(i, cell, lane));
                same("fault", x.fault(), twin.fault());
            }
        }
        same("suspects", x.suspects(), twin.suspects());
    }

    private static void same(String what, long one, long other) {
        c.due(what + " of the twin", one, other);
    }
}
