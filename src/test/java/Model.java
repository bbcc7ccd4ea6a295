import java.math.BigInteger;
import java.util.ArrayList;
import java.util.List;

/**
 * The document once more, in the plainest Java and apart from the class that is tested: nothing is summed up
 * ahead of time, SPANS are narrowed by distances, FAULTS are those that the Java machine comes to.
 */
final class Model {
    private static final int UNKNOWN = -1, OUTSIDE = -2, STATE = -3, FULL = -4, NONE = -9;
    private static final long LOST = Long.MIN_VALUE;

    private int[] lows = new int[48], highs = new int[48];
    private int d = 1000;
    private final List<Pitch> pitches = new ArrayList<>();
    private final List<Gang> gangs = new ArrayList<>();
    private final List<Take> takes = new ArrayList<>();
    private final List<Parcel> parcels = new ArrayList<>();
    private Auction auction;
    private final Object[] sheets = new Object[4];
    private int trace, fault;

    Model() {
        for (int s = 0; s < 48; s++) highs[s] = 1000;
    }

    private record Pitch(int number, int x, int y, int x2, int y2, int tons) {
        boolean has(int s) {
            return s % 8 >= x && s % 8 <= x2 && s / 8 >= y && s / 8 <= y2;
        }
    }

    private record Parcel(Take take, long tons, int goodness) {
    }

    private record Bid(Gang gang, int share) {
    }

    private static final class Auction {
        final Pitch pitch;
        final int beginning;
        final List<Bid> bids = new ArrayList<>();

        Auction(Pitch pitch, int beginning) {
            this.pitch = pitch;
            this.beginning = beginning;
        }

        Bid latest() {
            return bids.isEmpty() ? null : bids.get(bids.size() - 1);
        }
    }

    private static final class Take {
        Gang gang;
        Pitch pitch;
        int share;
        long least, greatest, costs, ahead, pay;
        boolean settled;
    }

    /** What lends its body to all GANGS that have none of their own. */
    private interface Greeted {
        int number();

        int kind();

        Model model();

        default int greeting() {
            model().leave(4);
            return 10 * number() + kind();
        }
    }

    private static class Gang implements Greeted {
        final Model model;
        final int number, kind;
        long debt;

        Gang(Model model, int number, int kind) {
            this.model = model;
            this.number = number;
            this.kind = kind;
        }

        public int number() {
            return number;
        }

        public int kind() {
            return kind;
        }

        public Model model() {
            return model;
        }

        int telling() {
            return tellingOfGang();
        }

        int tellingOfGang() {
            model.leave(1);
            return (int) model.takes.stream().filter(t -> t.gang == this).count();
        }
    }

    private static class Family extends Gang {
        Family(Model model, int number, int kind) {
            super(model, number, kind);
        }

        @Override int telling() {
            model.leave(2);
            return 10 + super.telling();
        }

        @Override public int greeting() {
            model.leave(5);
            return 6;
        }
    }

    private static final class OldHands extends Family {
        OldHands(Model model, int number) {
            super(model, number, 2);
        }

        @Override int telling() {
            model.leave(3);
            return tellingOfGang() * 3;
        }

        @Override public int greeting() {
            model.leave(6);
            return super.greeting() + 1;
        }
    }

    // ---- 1 the lode

    int find(int x, int y, int low, int high) {
        if (!isSquare(x, y)) return UNKNOWN;
        if (low < 0 || low > 1000 || high < 0 || high > 1000 || low > high) return OUTSIDE;
        int[] from = lows.clone(), to = highs.clone();
        from[8 * y + x] = Math.max(from[8 * y + x], low);
        to[8 * y + x] = Math.min(to[8 * y + x], high);
        return narrowed(from, to, d);
    }

    int rise(int newD) {
        if (newD < 0 || newD > 1000) return OUTSIDE;
        if (newD > d) return STATE;
        int changed = narrowed(lows, highs, newD);
        if (changed != STATE) d = newD;
        return changed;
    }

    int good(int x, int y, int which) {
        if (!isSquare(x, y)) return UNKNOWN;
        if (which != 0 && which != 1) return OUTSIDE;
        return which == 0 ? lows[8 * y + x] : highs[8 * y + x];
    }

    int chart(int k, int lane, int i, int n, int s) {
        fault = 0;
        if (k < 0 || k > 3 || s < 0 || s > 47) return UNKNOWN;
        if (lane < 0 || lane > 2) return OUTSIDE;
        int[] from = lows.clone(), to = highs.clone();
        boolean[] above = {false};
        int faulted = (int) machine(-10, () -> {
            Object row = sheets[k];
            lengthAs(row, lane);
            // Beyond 1000 the machine would only want for room: what is not there is come to far sooner.
            boolean[] seen = new boolean[Math.min(n, 1000)];
            for (int c = 0; c < seen.length; c++) {
                int cell = cellAs(row, lane, i + c);
                seen[c] = from[s + c] >= 0;
                if (cell > 1000) above[0] = true;
                if (cell < 0) continue;
                from[s + c] = Math.max(from[s + c], cell);
                to[s + c] = Math.min(to[s + c], cell);
            }
            return 0;
        });
        if (faulted != 0) return faulted;
        return above[0] ? OUTSIDE : narrowed(from, to, d);
    }

    private static boolean isSquare(int x, int y) {
        return x >= 0 && x <= 7 && y >= 0 && y <= 5;
    }

    /** Each SQUARE, however far away, tells of each other one: D for each step between them. */
    private int narrowed(int[] from, int[] to, int by) {
        int[] newLows = new int[48], newHighs = new int[48];
        int changed = 0;
        for (int s = 0; s < 48; s++) {
            newLows[s] = from[s];
            newHighs[s] = to[s];
            for (int t = 0; t < 48; t++) {
                int steps = Math.abs(s % 8 - t % 8) + Math.abs(s / 8 - t / 8);
                newLows[s] = Math.max(newLows[s], from[t] - by * steps);
                newHighs[s] = Math.min(newHighs[s], to[t] + by * steps);
            }
            if (newLows[s] > newHighs[s]) return STATE;
            if (newLows[s] != lows[s] || newHighs[s] != highs[s]) changed++;
        }
        lows = newLows;
        highs = newHighs;
        return changed;
    }

    // ---- 2 pitches, gangs, auctions

    int pitch(int x, int y, int x2, int y2, int tons) {
        if (!isSquare(x, y) || !isSquare(x2, y2)) return UNKNOWN;
        if (x > x2 || y > y2 || tons < 1 || tons > 100) return OUTSIDE;
        Pitch pitch = new Pitch(pitches.size(), x, y, x2, y2, tons);
        for (int s = 0; s < 48; s++) {
            for (Pitch other : pitches) {
                if (pitch.has(s) && other.has(s)) return STATE;
            }
        }
        if (pitches.size() == 12) return FULL;
        pitches.add(pitch);
        return pitch.number;
    }

    long foretold(int p, int which) {
        if (p < 0 || p >= pitches.size() || which < 0 || which > 1) return LOST;
        return foretold(pitches.get(p), which == 0 ? lows : highs);
    }

    private static long foretold(Pitch pitch, int[] goodness) {
        long sum = 0;
        for (int s = 0; s < 48; s++) {
            if (pitch.has(s)) sum += (long) pitch.tons * goodness[s];
        }
        return sum;
    }

    int gang(int kind) {
        if (kind < 0 || kind > 2) return OUTSIDE;
        int number = gangs.size();
        if (number == 8) return FULL;
        if (kind == 0) gangs.add(new Gang(this, number, 0));
        if (kind == 1) gangs.add(new Family(this, number, 1));
        if (kind == 2) gangs.add(new OldHands(this, number));
        return number;
    }

    int auction(int p, int share) {
        if (p < 0 || p >= pitches.size()) return UNKNOWN;
        if (share < 1 || share > 240) return OUTSIDE;
        if (letBy(pitches.get(p)) != null || auction != null) return STATE;
        auction = new Auction(pitches.get(p), share);
        return 1;
    }

    /** The TAKE of a PITCH that is not SETTLED. */
    private Take letBy(Pitch pitch) {
        for (Take take : takes) {
            if (take.pitch == pitch && !take.settled) return take;
        }
        return null;
    }

    int bid(int g, int share) {
        if (g < 0 || g >= gangs.size()) return UNKNOWN;
        if (auction == null) return STATE;
        Bid ahead = auction.latest();
        if (share < 1) return OUTSIDE;
        if (ahead == null ? share > auction.beginning : share >= ahead.share) return OUTSIDE;
        Gang gang = gangs.get(g);
        if (ahead != null && ahead.gang == gang) return STATE;
        if (pitches.stream().filter(p -> letBy(p) != null && letBy(p).gang == gang).count() == 3) return STATE;
        if (auction.bids.size() == 20) return FULL;
        auction.bids.add(new Bid(gang, share));
        return auction.bids.size();
    }

    int strike() {
        if (auction == null) return STATE;
        Bid last = auction.latest();
        if (last == null) {
            auction = null;
            return NONE;
        }
        if (takes.size() == 40) return FULL;
        Take take = new Take();
        take.gang = last.gang;
        take.pitch = auction.pitch;
        take.share = last.share;
        take.least = foretold(auction.pitch, lows);
        take.greatest = foretold(auction.pitch, highs);
        takes.add(take);
        auction = null;
        return takes.size() - 1;
    }

    int about(int p, int what) {
        if (p < 0 || p >= pitches.size()) return UNKNOWN;
        Pitch pitch = pitches.get(p);
        return switch (what) {
            case 0 -> pitch.x;
            case 1 -> pitch.y;
            case 2 -> pitch.x2;
            case 3 -> pitch.y2;
            case 4 -> pitch.tons;
            case 5 -> letBy(pitch) == null ? NONE : takes.indexOf(letBy(pitch));
            case 6 -> (int) takes.stream().filter(t -> t.pitch == pitch).count();
            default -> OUTSIDE;
        };
    }

    // ---- 3 takes

    int parcel(int t, int tons, int good) {
        if (t < 0 || t >= takes.size()) return UNKNOWN;
        if (tons < 1 || tons > 1000 || good < 0 || good > 1000) return OUTSIDE;
        if (takes.get(t).settled) return STATE;
        if (parcels.size() == 80) return FULL;
        parcels.add(new Parcel(takes.get(t), tons, good));
        return parcels.size() - 1;
    }

    private long worths(Take take) {
        return parcels.stream().filter(p -> p.take == take).mapToLong(p -> p.tons * p.goodness).sum();
    }

    long spend(int t, int what, int pence) {
        if (t < 0 || t >= takes.size() || what < 0 || what > 1 || pence < 0 || pence > 100000) return LOST;
        Take take = takes.get(t);
        if (take.settled) return LOST;
        return what == 0 ? (take.costs += pence) : (take.ahead += pence);
    }

    long settle(int t) {
        if (t < 0 || t >= takes.size() || takes.get(t).settled) return LOST;
        Take take = takes.get(t);
        Gang gang = take.gang;
        long due = take.share * worths(take) / 240;
        due -= gang.kind == 0 ? take.costs : take.costs / 2;
        due -= take.ahead;
        long part = gang.kind == 2 ? gang.debt / 2 : gang.debt;
        due -= part;
        gang.debt -= part;
        if (due < 0) gang.debt += -due;
        else take.pay = due;
        take.settled = true;
        return take.pay;
    }

    int taken(int t, int what) {
        if (t < 0 || t >= takes.size()) return UNKNOWN;
        Take take = takes.get(t);
        return switch (what) {
            case 0 -> take.gang.number;
            case 1 -> take.pitch.number;
            case 2 -> take.share;
            case 3 -> take.settled ? 1 : 0;
            case 4 -> (int) parcels.stream().filter(p -> p.take == take).count();
            default -> OUTSIDE;
        };
    }

    long money(int t, int what) {
        if (t < 0 || t >= takes.size()) return LOST;
        Take take = takes.get(t);
        return switch (what) {
            case 0 -> worths(take);
            case 1 -> take.costs;
            case 2 -> take.ahead;
            case 3 -> take.pay;
            case 4 -> take.least;
            case 5 -> take.greatest;
            default -> LOST;
        };
    }

    long debt(int g) {
        return g < 0 || g >= gangs.size() ? LOST : gangs.get(g).debt;
    }

    int suspects() {
        return suspectParcels().size();
    }

    int suspect(int i) {
        List<Integer> found = suspectParcels();
        return i < 0 || i >= found.size() ? UNKNOWN : found.get(i);
    }

    private List<Integer> suspectParcels() {
        List<Integer> found = new ArrayList<>();
        for (int c = 0; c < parcels.size(); c++) {
            boolean canBe = false;
            for (int s = 0; s < 48; s++) {
                if (parcels.get(c).take.pitch.has(s) && highs[s] >= parcels.get(c).goodness) canBe = true;
            }
            if (!canBe) found.add(c);
        }
        return found;
    }

    long skill(int g, int which) {
        if (g < 0 || g >= gangs.size() || which < 0 || which > 1) return LOST;
        BigInteger fy = BigInteger.ZERO, ff = BigInteger.ZERO;
        for (Take take : takes) {
            BigInteger f = BigInteger.valueOf(take.least + take.greatest);
            if (take.gang.number != g || !take.settled || f.signum() == 0) continue;
            fy = fy.add(f.multiply(BigInteger.valueOf(2 * worths(take))));
            ff = ff.add(f.multiply(f));
        }
        if (ff.signum() == 0) return which == 0 ? 0 : 1;
        return (which == 0 ? fy : ff).divide(fy.gcd(ff)).longValueExact();
    }

    // ---- 4 sheets, parts

    private interface Deed {
        long answer();
    }

    /** Does something as the machine does it; a FAULT that it comes to answers `less` less its number. */
    private long machine(long less, Deed deed) {
        try {
            return deed.answer();
        } catch (NullPointerException e) {
            fault = 1;
        } catch (ClassCastException | ArrayStoreException e) {
            fault = 2;
        } catch (IndexOutOfBoundsException e) {
            fault = 3;
        } catch (NegativeArraySizeException e) {
            fault = 4;
        }
        return less == LOST ? LOST : less - fault;
    }

    private static int lengthAs(Object row, int lane) {
        if (lane == 0) return ((byte[]) row).length;
        return lane == 1 ? ((short[]) row).length : ((int[]) row).length;
    }

    private static int cellAs(Object row, int lane, int i) {
        if (lane == 0) return ((byte[]) row)[i];
        return lane == 1 ? ((short[]) row)[i] : ((int[]) row)[i];
    }

    int sheet(int k, int lane, int n) {
        fault = 0;
        if (k < 0 || k > 3) return UNKNOWN;
        if (lane < 0 || lane > 2 || n > 48) return OUTSIDE;
        return (int) machine(-10, () -> {
            sheets[k] = lane == 0 ? new byte[n] : lane == 1 ? new short[n] : new int[n];
            return 1;
        });
    }

    int lose(int k) {
        if (k < 0 || k > 3) return UNKNOWN;
        int had = sheets[k] == null ? 0 : 1;
        sheets[k] = null;
        return had;
    }

    int put(int k, int i, int v) {
        fault = 0;
        if (k < 0 || k > 3) return UNKNOWN;
        return (int) machine(-10, () -> {
            if (sheets[k] instanceof byte[] row) row[i] = (byte) v;
            else if (sheets[k] instanceof short[] row) row[i] = (short) v;
            else ((int[]) sheets[k])[i] = v;
            return 1;
        });
    }

    long cell(int k, int i, int lane) {
        fault = 0;
        if (k < 0 || k > 3 || lane < 0 || lane > 2) return LOST;
        return machine(LOST, () -> cellAs(sheets[k], lane, i));
    }

    int copy(int k, int i, int other, int j, int n) {
        fault = 0;
        if (k < 0 || k > 3 || other < 0 || other > 3) return UNKNOWN;
        return (int) machine(-10, () -> {
            System.arraycopy(sheets[k], i, sheets[other], j, n);
            return n;
        });
    }

    private void leave(int body) {
        trace = 31 * trace + body;
    }

    int tell(int g) {
        return g < 0 || g >= gangs.size() ? UNKNOWN : gangs.get(g).telling();
    }

    int greet(int g) {
        return g < 0 || g >= gangs.size() ? UNKNOWN : gangs.get(g).greeting();
    }

    int as(int g, int kind) {
        fault = 0;
        if (g < 0 || g >= gangs.size()) return UNKNOWN;
        if (kind < 0 || kind > 2) return OUTSIDE;
        Object gang = gangs.get(g);
        return (int) machine(-10, () -> {
            Gang as = kind == 0 ? (Gang) gang : kind == 1 ? (Family) gang : (OldHands) gang;
            return as == gang ? 1 : 0;
        });
    }

    int trace() {
        return trace;
    }

    int fault() {
        return fault;
    }

    int told(int what) {
        return switch (what) {
            case 0 -> pitches.size();
            case 1 -> gangs.size();
            case 2 -> takes.size();
            case 3 -> parcels.size();
            case 4 -> d;
            case 5 -> auction == null ? NONE : auction.bids.size();
            case 6 -> auction == null ? NONE : auction.pitch.number;
            case 7 -> auction == null ? NONE : auction.latest() == null ? auction.beginning : auction.latest().share;
            default -> OUTSIDE;
        };
    }
}
