import java.lang.reflect.Method;
import java.util.Arrays;
import java.util.HashMap;
import java.util.Map;
import java.util.Random;
import java.util.TreeMap;

/**
 * All promises at once against Model, over random runs of up to 512 calls that go deep enough to come to each
 * answer that the document names.
 */
public final class WholeTest {
    private static final int RUNS = 2000, CALLS = 512, FEWEST = 30;
    private static final long LOST = TributePitches.LOST;

    /** Each call, and what must have been answered often enough: + an answer, or refusals and faults by number. */
    private static final String[] CALLS_AND_ANSWERS = {
        "find + -1 -2 -3", "rise + -2 -3", "good + -1 -2", "chart + -1 -2 -3 -11 -12 -13 -14",
        "pitch + -1 -2 -3 -4", "foretold + lost", "gang + -2 -4", "auction + -1 -2 -3", "bid + -1 -2 -3 -4",
        "strike + -3 -4 -9", "about + -1 -2 -9", "parcel + -1 -2 -3 -4", "spend + lost", "settle + lost",
        "taken + -1 -2", "money + lost", "debt + lost", "suspects +", "suspect + -1", "skill + lost",
        "sheet + -1 -2 -14", "lose + -1", "put + -1 -11 -13", "cell + lost", "copy + -1 -11 -12 -13",
        "tell + -1", "greet + -1", "as + -1 -2 -12", "trace +", "fault +", "told + -2 -9"};
    /** Groups of calls, some of which a run asks for far more often than for the others. */
    private static final String[] GROUPS = {
        "find find rise good", "sheet put put put chart chart good", "sheet lose put put cell copy copy fault",
        "pitch pitch gang about foretold find", "auction bid strike settle", "auction bid bid bid bid bid told",
        "parcel parcel parcel spend spend settle money suspects suspect", "auction bid strike parcel settle skill debt",
        "auction bid strike about taken money tell", "gang tell greet as trace fault", "work", "work parcel", "parcel"};

    private static final Checks c = new Checks();
    private static final Map<String, Method> face = new HashMap<>(), model = new HashMap<>();
    private static final Map<String, Integer> answered = new TreeMap<>();

    private final Random random;
    private final TributePitches asked = new TributePitches();
    private final Model due = new Model();
    /** How many numbers of a hundred are none of those that may be. */
    private final int wild;
    private final int[] lanes = new int[4], lengths = new int[4];

    private WholeTest(int seed) {
        random = new Random(seed);
        wild = new int[] {0, 1, 4, 15}[random.nextInt(4)];
    }

    public static void main(String[] args) throws Exception {
        for (String line : CALLS_AND_ANSWERS) {
            String name = line.split(" ")[0];
            for (Method m : TributePitches.class.getDeclaredMethods()) {
                if (!m.getName().equals(name)) continue;
                face.put(name, m);
                model.put(name, Model.class.getDeclaredMethod(name, m.getParameterTypes()));
            }
        }
        c.due("calls", 31, face.size());
        for (int seed = 0; seed < RUNS && c.areRight(); seed++) new WholeTest(seed).run(seed);
        if (c.areRight()) allAnswersCame();
        c.close();
    }

    private static void allAnswersCame() {
        for (String line : CALLS_AND_ANSWERS) {
            String[] words = line.split(" ");
            for (int w = 1; w < words.length; w++) {
                int often = answered.getOrDefault(words[0] + " " + words[w], 0);
                c.holds(words[0] + " answered " + words[w] + " but " + often + " times", often >= FEWEST);
            }
        }
    }

    private void run(int seed) throws Exception {
        String[] often = (group() + " " + group()).split(" ");
        int rare = 5 + random.nextInt(30);
        for (int call = 0; call < CALLS && c.areRight(); call++) {
            String name = often[random.nextInt(often.length)];
            if (call < 20) name = random.nextBoolean() ? "gang" : "pitch";
            else if (random.nextInt(100) < rare) {
                name = CALLS_AND_ANSWERS[random.nextInt(CALLS_AND_ANSWERS.length)].split(" ")[0];
            }
            if (name.equals("work")) name = work();
            ask("run " + seed + ", call " + call, name, numbers(name));
        }
    }

    private String group() {
        return GROUPS[random.nextInt(GROUPS.length)];
    }

    /** What brings on the next TAKE. */
    private String work() {
        int bids = due.told(5);
        if (seldom(3)) return "settle";
        return bids < 0 ? "auction" : bids == 0 ? "bid" : "strike";
    }

    private void ask(String where, String name, Integer[] a) throws Exception {
        long want = ((Number) model.get(name).invoke(due, (Object[]) a)).longValue();
        long got = ((Number) face.get(name).invoke(asked, (Object[]) a)).longValue();
        c.due(where + ": " + name + Arrays.toString(a), want, got);
        boolean isNumber = want >= 0 || name.equals("trace") || name.equals("cell") && want != LOST;
        answered.merge(name + " " + (isNumber ? "+" : want == LOST ? "lost" : "" + want), 1, Integer::sum);
        if (name.equals("sheet") && want == 1) {
            lanes[a[0]] = a[1];
            lengths[a[0]] = a[2];
        }
    }

    /** Numbers that may well be done, but for the wild ones among them. */
    private Integer[] numbers(String name) {
        int d = due.told(4), p = due.told(0) - 1, g = due.told(1) - 1, t = due.told(2) - 1;
        int k = random.nextInt(4), other = random.nextInt(4);
        return switch (name) {
            case "find" -> finding(any(0, 7), any(0, 5));
            case "rise" -> a(any(seldom(9) ? 0 : Math.max(0, d - 90), d));
            case "good" -> a(any(0, 7), any(0, 5), any(0, 1));
            case "chart" -> charting(k);
            case "pitch" -> pitching(any(0, 7), any(0, 5));
            case "foretold" -> a(any(0, p), any(0, 1));
            case "gang" -> a(any(0, 2));
            case "auction" -> a(unlet(p), any(seldom(4) ? 1 : 200, 240));
            case "bid" -> bidding(any(0, g));
            case "about" -> a(any(0, p), any(0, 6));
            case "parcel" -> a(unsettled(t), any(1, random.nextBoolean() ? 9 : 1000), any(0, 1000));
            case "spend" -> a(unsettled(t), any(0, 1), any(0, random.nextBoolean() ? 999 : 100000));
            case "settle" -> a(unsettled(t));
            case "taken" -> a(any(0, t), any(0, 4));
            case "money" -> a(any(0, t), any(0, 5));
            case "debt", "tell", "greet" -> a(any(0, g));
            case "suspect" -> a(any(0, due.suspects() - 1));
            case "skill" -> a(any(0, g), any(0, 1));
            case "sheet" -> a(any(0, 3), any(0, 2), any(seldom(4) ? -2 : 0, random.nextBoolean() ? 6 : 48));
            case "lose" -> a(any(0, 3));
            case "put" -> a(any(k, k), any(0, lengths[k] - 1), value());
            case "cell" -> a(any(k, k), any(0, lengths[k] - 1), any(lanes[k], lanes[k]));
            case "copy" -> copying(k, other);
            case "as" -> a(any(0, g), any(0, 2));
            case "told" -> a(any(0, 7));
            default -> a();
        };
    }

    private static Integer[] a(Integer... numbers) {
        return numbers;
    }

    /** A number of least .. most, often one at its ends; a wild one may be any. */
    private int any(int least, int most) {
        if (random.nextInt(100) < wild) {
            int[] beyond = {least - 1, most + 1, Integer.MIN_VALUE, Integer.MAX_VALUE, random.nextInt(),
                -random.nextInt(60)};
            return beyond[random.nextInt(beyond.length)];
        }
        if (most < least) return random.nextInt(3) - 1;
        if (seldom(8)) return random.nextBoolean() ? least : most;
        return least + random.nextInt(most - least + 1);
    }

    /** Once in so many times. */
    private boolean seldom(int times) {
        return random.nextInt(times) == 0;
    }

    /** Mostly something that the SPAN has in common, and seldom too little to go on with. */
    private Integer[] finding(int x, int y) {
        int low = Math.max(0, due.good(x, y, 0)), high = Math.max(low, due.good(x, y, 1));
        if (seldom(3)) return a(x, y, any(0, 1000), any(0, 1000));
        int least = any(Math.max(0, low - 40), low + (high - low) / 4);
        return a(x, y, least, any(Math.min(high, Math.max(least, high - 40)), Math.min(1000, high + 40)));
    }

    private Integer[] charting(int k) {
        int i = any(0, lengths[k] - 1), s = any(0, 47);
        int lane = seldom(9) ? any(0, 2) : any(lanes[k], lanes[k]);
        return a(any(k, k), lane, i, any(seldom(9) ? -1 : 0, seldom(9) ? 48 : 3), s);
    }

    private Integer[] copying(int k, int other) {
        int n = any(seldom(9) ? -1 : 0, seldom(3) ? Math.min(lengths[k], lengths[other]) : 2), cells = Math.max(n, 0);
        return a(any(k, k), any(0, lengths[k] - cells), any(other, other), any(0, lengths[other] - cells), n);
    }

    private Integer[] pitching(int x, int y) {
        int size = seldom(4) ? 4 : 1;
        int x2 = Math.min(7, x + random.nextInt(size)), y2 = Math.min(5, y + random.nextInt(size));
        return a(x, y, any(x, x2), any(y, y2), any(1, 100));
    }

    /** Mostly a step or two below the BID ahead, so that there may be many of them. */
    private Integer[] bidding(int g) {
        int ahead = due.told(7);
        return a(g, any(seldom(9) ? 1 : Math.max(1, ahead - 3), Math.max(1, ahead)));
    }

    /** Mostly a TAKE that is not settled. */
    private int unsettled(int last) {
        int t = any(0, last);
        for (int more = 0; more < 40 && due.taken(t, 3) == 1 && random.nextInt(20) > 0; more++) t = any(0, last);
        return t;
    }

    /** Mostly a PITCH that is not let. */
    private int unlet(int last) {
        int p = any(0, last);
        for (int more = 0; more < 9 && due.about(p, 5) >= 0 && random.nextInt(9) > 0; more++) p = any(0, last);
        return p;
    }

    /** A cell: often one that a SQUARE's SPAN has, else one at the ends of a LANE. */
    private int value() {
        int s = random.nextInt(48), low = due.good(s % 8, s / 8, 0), high = due.good(s % 8, s / 8, 1);
        int kind = random.nextInt(10);
        if (kind < 6) return any(low, high);
        if (kind < 8) return -1 - random.nextInt(300);
        return kind == 8 ? any(0, 1001) : any(-70000, 70000);
    }
}
