import java.util.Random;

/** Promises 2, 3 and 5 against NARROWING as the document words it, each SPAN again and again till none changes. */
public final class NarrowingTest {
    private static final int RUNS = 400, CALLS = 25, WIDTH = 8, SQUARES = 48;
    private static final Checks c = new Checks();

    /** The SPANS and D, narrowed one step at a time. */
    private static final class Spans {
        int[] low = new int[SQUARES], high = new int[SQUARES];
        int d = 1000;

        Spans() {
            for (int s = 0; s < SQUARES; s++) high[s] = 1000;
        }

        Spans(Spans other) {
            low = other.low.clone();
            high = other.high.clone();
            d = other.d;
        }

        void common(int s, int from, int to) {
            low[s] = Math.max(low[s], from);
            high[s] = Math.min(high[s], to);
        }

        boolean narrow() {
            boolean changed = true;
            while (changed) {
                changed = false;
                for (int s = 0; s < SQUARES; s++) {
                    for (int t = 0; t < SQUARES; t++) {
                        int steps = Math.abs(s % WIDTH - t % WIDTH) + Math.abs(s / WIDTH - t / WIDTH);
                        if (steps != 1) continue;
                        int from = low[s], to = high[s];
                        common(s, low[t] - d, high[t] + d);
                        changed |= from != low[s] || to != high[s];
                    }
                    if (low[s] > high[s]) return false;
                }
            }
            return true;
        }

        int unlike(Spans other) {
            int count = 0;
            for (int s = 0; s < SQUARES; s++) {
                if (low[s] != other.low[s] || high[s] != other.high[s]) count++;
            }
            return count;
        }
    }

    public static void main(String[] args) {
        int[] kept = {0};
        for (int seed = 0; seed < RUNS; seed++) run(new Random(seed), kept);
        c.holds("many calls found something", kept[0] > RUNS);
        c.close();
    }

    private static void run(Random random, int[] kept) {
        TributePitches x = new TributePitches();
        Spans spans = new Spans();
        x.sheet(0, 2, 12);
        for (int call = 0; call < CALLS; call++) {
            Spans next = new Spans(spans);
            int got = ask(x, next, random);
            int want = next.narrow() ? next.unlike(spans) : TributePitches.STATE;
            c.due("call " + call, want, got);
            if (want == TributePitches.STATE) continue;
            spans = next;
            if (want > 1) kept[0]++;
        }
        for (int s = 0; s < SQUARES; s++) {
            c.due("low of " + s, spans.low[s], x.good(s % WIDTH, s / WIDTH, 0));
            c.due("high of " + s, spans.high[s], x.good(s % WIDTH, s / WIDTH, 1));
        }
        c.due("D", spans.d, x.told(4));
    }

    private static int ask(TributePitches x, Spans next, Random random) {
        int kind = random.nextInt(5);
        if (kind == 0) {
            next.d = Math.max(0, next.d - random.nextInt(next.d > 200 ? 400 : 30));
            return x.rise(next.d);
        }
        int s = random.nextInt(SQUARES);
        if (kind < 4) {
            int low = random.nextInt(1001), high = low + random.nextInt(1001 - low);
            // Now and then something that the SPAN is sure to have in common.
            if (random.nextBoolean()) low = Math.min(low, next.high[s]);
            if (random.nextBoolean()) high = Math.max(high, next.low[s]);
            next.common(s, low, high);
            return x.find(s % WIDTH, s / WIDTH, low, high);
        }
        int n = 1 + random.nextInt(Math.min(12, SQUARES - s));
        for (int i = 0; i < n; i++) {
            int low = next.low[s + i], cell = low + random.nextInt(Math.min(20, next.high[s + i] - low + 1));
            if (random.nextInt(3) == 0) cell = -1 - random.nextInt(5);
            x.put(0, i, cell);
            if (cell >= 0) next.common(s + i, cell, cell);
        }
        return x.chart(0, 2, 0, n, s);
    }
}
