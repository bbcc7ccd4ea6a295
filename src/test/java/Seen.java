import java.util.function.Supplier;
import java.util.function.ToLongFunction;

/** What can be seen of an object by its calls, as a text. */
final class Seen {
    private Seen() {
    }

    /**
     * A call that is to change nothing: of two objects that were made alike only one is asked, and then both
     * must look alike, but for fault(), which tells of that call if it names FAULTS.
     */
    static void unchanged(Checks c, Supplier<TributePitches> made, String call, long due,
            ToLongFunction<TributePitches> asked) {
        TributePitches x = made.get(), twin = made.get();
        c.due(call, due, asked.applyAsLong(x));
        String seen = of(x), before = of(twin);
        c.holds(call + " left\n" + before + "as\n" + seen, seen.equals(before));
    }

    /**
     * Of many TAKES only the last ones are looked at, for an object has 512 calls. The cells come last, since
     * to look for them changes fault().
     */
    static String of(TributePitches x) {
        StringBuilder text = new StringBuilder();
        int[] told = new int[8];
        for (int what = 0; what < 8; what++) told[what] = x.told(what);
        for (int number : told) text.append(number).append(' ');
        text.append("trace ").append(x.trace()).append('\n');
        spans(x, text);
        for (int p = 0; p < told[0]; p++) pitch(x, p, text);
        for (int g = 0; g < told[1]; g++) {
            text.append("gang ").append(x.debt(g)).append(' ').append(x.skill(g, 0)).append(' ').append(x.skill(g, 1));
            text.append('\n');
        }
        for (int t = Math.max(0, told[2] - 4); t < told[2]; t++) take(x, t, text);
        text.append("suspects ").append(x.suspects()).append(' ').append(x.suspect(0)).append('\n');
        for (int k = 0; k < 4; k++) sheet(x, k, text);
        return text.toString();
    }

    private static void spans(TributePitches x, StringBuilder text) {
        for (int s = 0; s < 48; s++) {
            text.append(x.good(s % 8, s / 8, 0)).append("..").append(x.good(s % 8, s / 8, 1));
            text.append(s % 8 == 7 ? '\n' : ' ');
        }
    }

    private static void pitch(TributePitches x, int p, StringBuilder text) {
        text.append("pitch");
        for (int what = 0; what < 7; what++) text.append(' ').append(x.about(p, what));
        text.append('\n');
    }

    private static void take(TributePitches x, int t, StringBuilder text) {
        text.append("take");
        for (int what = 0; what < 5; what++) text.append(' ').append(x.taken(t, what));
        for (int what = 0; what < 6; what++) text.append(' ').append(x.money(t, what));
        text.append('\n');
    }

    private static void sheet(TributePitches x, int k, StringBuilder text) {
        text.append("sheet");
        for (int lane = 0; lane < 3; lane++) {
            for (int i = 0; i < 49; i++) {
                long cell = x.cell(k, i, lane);
                text.append(' ').append(cell == TributePitches.LOST ? "fault " + x.fault() : "" + cell);
                if (cell == TributePitches.LOST) break;
            }
        }
        text.append('\n');
    }
}
