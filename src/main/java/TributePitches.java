import java.util.Arrays;

/**
 * A lode in squares, its pitches let by tribute at falling auctions, the takes that are worked there,
 * and the sheets that findings are written on.
 *
 * <p>A call that cannot be done answers a refusal (UNKNOWN, OUTSIDE, STATE, FULL, or LOST where a long is
 * answered) or a fault (-10 less its number), and changes nothing but what fault() tells.
 */
public final class TributePitches {
    public static final int UNKNOWN = -1, OUTSIDE = -2, STATE = -3, FULL = -4, NONE = -9;
    public static final long LOST = Long.MIN_VALUE;

    private static final int NO_FAULT = 0, NULL = 1, CAST = 2, INDEX = 3, SIZE = 4;

    private static final int MOST_PITCHES = 12, MOST_GANGS = 8, MOST_TAKES = 40, MOST_PARCELS = 80;
    private static final int MOST_BIDS = 20, MOST_PITCHES_OF_A_GANG = 3;
    private static final int POUND = 240, MOST_TONS_OF_A_SQUARE = 100;
    private static final int MOST_TONS_OF_A_PARCEL = 1000, MOST_PENCE = 100000;
    private static final int GANG = 0, FAMILY = 1, OLD_HANDS = 2;

    private final Lode lode = new Lode();
    private final Pitch[] pitches = new Pitch[MOST_PITCHES];
    private final Gang[] gangs = new Gang[MOST_GANGS];
    private final Take[] takes = new Take[MOST_TAKES];
    private final Parcel[] parcels = new Parcel[MOST_PARCELS];
    private final Sheet[] sheets = {new Sheet(), new Sheet(), new Sheet(), new Sheet()};
    private final Trace steps = new Trace();
    private int pitchCount, gangCount, takeCount, parcelCount;
    /** The auction that goes on; null: none does. */
    private Auction current;
    private int latestFault = NO_FAULT;

    public TributePitches() {
    }

    // ---- 1 the lode

    public int find(int x, int y, int low, int high) {
        if (!Lode.hasSquare(x, y)) return UNKNOWN;
        if (!isWithin(low, 0, Lode.BEST) || !isWithin(high, 0, Lode.BEST) || low > high) return OUTSIDE;
        lode.beginTrial();
        lode.tryCommon(Lode.numberOf(x, y), low, high);
        return lode.endTrial(lode.law);
    }

    public int rise(int d) {
        if (!isWithin(d, 0, Lode.BEST)) return OUTSIDE;
        if (d > lode.law) return STATE;
        lode.beginTrial();
        return lode.endTrial(d);
    }

    public int good(int x, int y, int which) {
        if (!Lode.hasSquare(x, y)) return UNKNOWN;
        if (!isWithin(which, 0, 1)) return OUTSIDE;
        int square = Lode.numberOf(x, y);
        return which == 0 ? lode.lows[square] : lode.highs[square];
    }

    public int chart(int k, int lane, int i, int n, int s) {
        latestFault = NO_FAULT;
        Sheet sheet = sheetAt(k);
        if (sheet == null || !isWithin(s, 0, Lode.SQUARES - 1)) return UNKNOWN;
        if (!Sheet.isLane(lane)) return OUTSIDE;
        int fault = chartFault(sheet, lane, i, n, s);
        if (fault != NO_FAULT) return faulted(fault);
        if (sheet.hasAbove(Lode.BEST, i, n)) return OUTSIDE;
        lode.beginTrial();
        for (int c = 0; c < n; c++) {
            int found = sheet.cells[i + c];
            if (found >= 0) lode.tryCommon(s + c, found, found);
        }
        return lode.endTrial(lode.law);
    }

    private static int chartFault(Sheet sheet, int lane, int i, int n, int s) {
        int fault = sheet.faultAs(lane);
        if (fault != NO_FAULT) return fault;
        if (n < 0) return SIZE;
        // No cells at all are never cells that are not, wherever they would begin.
        if (n > 0 && !sheet.holds(i, n)) return INDEX;
        return n > Lode.SQUARES - s ? INDEX : NO_FAULT;
    }

    // ---- 2 pitches, gangs, auctions

    public int pitch(int x, int y, int x2, int y2, int tons) {
        if (!Lode.hasSquare(x, y) || !Lode.hasSquare(x2, y2)) return UNKNOWN;
        if (x > x2 || y > y2 || !isWithin(tons, 1, MOST_TONS_OF_A_SQUARE)) return OUTSIDE;
        if (isAnyPitched(x, y, x2, y2)) return STATE;
        if (pitchCount >= MOST_PITCHES) return FULL;
        pitches[pitchCount] = new Pitch(pitchCount, x, y, x2, y2, tons);
        return pitchCount++;
    }

    private boolean isAnyPitched(int x, int y, int x2, int y2) {
        for (int p = 0; p < pitchCount; p++) {
            if (pitches[p].meets(x, y, x2, y2)) return true;
        }
        return false;
    }

    public long foretold(int p, int which) {
        Pitch pitch = pitchAt(p);
        if (pitch == null || !isWithin(which, 0, 1)) return LOST;
        return which == 0 ? pitch.foretoldBy(lode.lows) : pitch.foretoldBy(lode.highs);
    }

    public int gang(int kind) {
        if (!isWithin(kind, GANG, OLD_HANDS)) return OUTSIDE;
        if (gangCount >= MOST_GANGS) return FULL;
        gangs[gangCount] = newGang(kind, gangCount);
        return gangCount++;
    }

    private static Gang newGang(int kind, int number) {
        switch (kind) {
            case OLD_HANDS: return new OldHands(number);
            case FAMILY: return new Family(number);
            default: return new Gang(number);
        }
    }

    public int auction(int p, int share) {
        Pitch pitch = pitchAt(p);
        if (pitch == null) return UNKNOWN;
        if (!isWithin(share, 1, POUND)) return OUTSIDE;
        if (pitch.take != null || current != null) return STATE;
        current = new Auction(pitch, share);
        return 1;
    }

    public int bid(int g, int share) {
        Gang gang = gangAt(g);
        if (gang == null) return UNKNOWN;
        if (current == null) return STATE;
        if (!isWithin(share, 1, current.mostShare())) return OUTSIDE;
        if (current.bidder == gang || gang.letPitches >= MOST_PITCHES_OF_A_GANG) return STATE;
        if (current.bids >= MOST_BIDS) return FULL;
        current.bidder = gang;
        current.share = share;
        current.bids++;
        return current.bids;
    }

    public int strike() {
        if (current == null) return STATE;
        Pitch pitch = current.pitch;
        Gang gang = current.bidder;
        if (gang == null) {
            current = null;
            return NONE;
        }
        if (takeCount >= MOST_TAKES) return FULL;
        Take take = new Take(takeCount, gang, pitch, current.share);
        take.least = pitch.foretoldBy(lode.lows);
        take.greatest = pitch.foretoldBy(lode.highs);
        take.begin();
        takes[takeCount] = take;
        current = null;
        return takeCount++;
    }

    public int about(int p, int what) {
        Pitch pitch = pitchAt(p);
        if (pitch == null) return UNKNOWN;
        switch (what) {
            case 0: return pitch.x;
            case 1: return pitch.y;
            case 2: return pitch.x2;
            case 3: return pitch.y2;
            case 4: return pitch.tons;
            case 5: return pitch.take == null ? NONE : pitch.take.number;
            case 6: return pitch.takesHad;
            default: return OUTSIDE;
        }
    }

    // ---- 3 takes

    public int parcel(int t, int tons, int good) {
        Take take = takeAt(t);
        if (take == null) return UNKNOWN;
        if (!isWithin(tons, 1, MOST_TONS_OF_A_PARCEL) || !isWithin(good, 0, Lode.BEST)) return OUTSIDE;
        if (take.settled) return STATE;
        if (parcelCount >= MOST_PARCELS) return FULL;
        parcels[parcelCount] = new Parcel(take.pitch, good);
        take.parcels++;
        take.worths += (long) tons * good;
        return parcelCount++;
    }

    public long spend(int t, int what, int pence) {
        Take take = takeAt(t);
        if (take == null || !isWithin(what, 0, 1) || !isWithin(pence, 0, MOST_PENCE)) return LOST;
        if (take.settled) return LOST;
        if (what == 0) {
            take.costs += pence;
            return take.costs;
        }
        take.ahead += pence;
        return take.ahead;
    }

    public long settle(int t) {
        Take take = takeAt(t);
        if (take == null || take.settled) return LOST;
        take.end();
        return take.pay;
    }

    public int taken(int t, int what) {
        Take take = takeAt(t);
        if (take == null) return UNKNOWN;
        switch (what) {
            case 0: return take.gang.number;
            case 1: return take.pitch.number;
            case 2: return take.share;
            case 3: return take.settled ? 1 : 0;
            case 4: return take.parcels;
            default: return OUTSIDE;
        }
    }

    public long money(int t, int what) {
        Take take = takeAt(t);
        if (take == null) return LOST;
        switch (what) {
            case 0: return take.worths;
            case 1: return take.costs;
            case 2: return take.ahead;
            case 3: return take.pay;
            case 4: return take.least;
            case 5: return take.greatest;
            default: return LOST;
        }
    }

    public long debt(int g) {
        Gang gang = gangAt(g);
        return gang == null ? LOST : gang.owed;
    }

    public int suspects() {
        int count = 0;
        for (int c = 0; c < parcelCount; c++) {
            if (parcels[c].isSuspect(lode)) count++;
        }
        return count;
    }

    public int suspect(int i) {
        int before = 0;
        for (int c = 0; c < parcelCount; c++) {
            if (!parcels[c].isSuspect(lode)) continue;
            if (before == i) return c;
            before++;
        }
        return UNKNOWN;
    }

    public long skill(int g, int which) {
        Gang gang = gangAt(g);
        if (gang == null || !isWithin(which, 0, 1)) return LOST;
        long upper = 0, lower = 0;
        for (int t = 0; t < takeCount; t++) {
            Take take = takes[t];
            if (take.gang != gang || !take.settled) continue;
            // A middle of 0, which is left out, would add nothing to either sum.
            long middle = take.least + take.greatest;
            upper += middle * (2 * take.worths);
            lower += middle * middle;
        }
        long common = commonDivisor(upper, lower);
        if (common == 0) return which == 0 ? 0 : 1;
        return which == 0 ? upper / common : lower / common;
    }

    /** The greatest common divisor of two numbers that are not below 0; 0 of 0 and 0. */
    private static long commonDivisor(long one, long other) {
        long a = one, b = other;
        // Each two rounds at least halve the greater of them, so that 128 are enough for any two longs.
        for (int round = 0; round < 128 && b != 0; round++) {
            long rest = a % b;
            a = b;
            b = rest;
        }
        return a;
    }

    // ---- 4 sheets, parts

    public int sheet(int k, int lane, int n) {
        latestFault = NO_FAULT;
        Sheet sheet = sheetAt(k);
        if (sheet == null) return UNKNOWN;
        if (!Sheet.isLane(lane) || n > Sheet.MOST_CELLS) return OUTSIDE;
        if (n < 0) return faulted(SIZE);
        sheet.renew(lane, n);
        return 1;
    }

    public int lose(int k) {
        Sheet sheet = sheetAt(k);
        if (sheet == null) return UNKNOWN;
        if (sheet.hasNothing()) return 0;
        sheet.renew(Sheet.NO_LANE, 0);
        return 1;
    }

    public int put(int k, int i, int v) {
        latestFault = NO_FAULT;
        Sheet sheet = sheetAt(k);
        if (sheet == null) return UNKNOWN;
        if (sheet.hasNothing()) return faulted(NULL);
        if (!sheet.holds(i, 1)) return faulted(INDEX);
        sheet.cells[i] = sheet.cut(v);
        return 1;
    }

    public long cell(int k, int i, int lane) {
        latestFault = NO_FAULT;
        Sheet sheet = sheetAt(k);
        if (sheet == null || !Sheet.isLane(lane)) return LOST;
        latestFault = sheet.faultAs(lane);
        if (latestFault == NO_FAULT && !sheet.holds(i, 1)) latestFault = INDEX;
        return latestFault == NO_FAULT ? sheet.cells[i] : LOST;
    }

    public int copy(int k, int i, int other, int j, int n) {
        latestFault = NO_FAULT;
        Sheet from = sheetAt(k);
        Sheet to = sheetAt(other);
        if (from == null || to == null) return UNKNOWN;
        if (from.hasNothing() || to.hasNothing()) return faulted(NULL);
        if (from.lane != to.lane) return faulted(CAST);
        if (!from.holds(i, n) || !to.holds(j, n)) return faulted(INDEX);
        System.arraycopy(from.cells, i, to.cells, j, n);
        return n;
    }

    public int tell(int g) {
        Gang gang = gangAt(g);
        return gang == null ? UNKNOWN : gang.telling(steps);
    }

    public int greet(int g) {
        Gang gang = gangAt(g);
        return gang == null ? UNKNOWN : gang.greeting(steps);
    }

    public int as(int g, int kind) {
        latestFault = NO_FAULT;
        Gang gang = gangAt(g);
        if (gang == null) return UNKNOWN;
        if (!isWithin(kind, GANG, OLD_HANDS)) return OUTSIDE;
        return isOfKind(gang, kind) ? 1 : faulted(CAST);
    }

    private static boolean isOfKind(Gang gang, int kind) {
        switch (kind) {
            case OLD_HANDS: return gang instanceof OldHands;
            case FAMILY: return gang instanceof Family;
            default: return true;
        }
    }

    public int trace() {
        return steps.number;
    }

    public int fault() {
        return latestFault;
    }

    public int told(int what) {
        switch (what) {
            case 0: return pitchCount;
            case 1: return gangCount;
            case 2: return takeCount;
            case 3: return parcelCount;
            case 4: return lode.law;
            case 5: return current == null ? NONE : current.bids;
            case 6: return current == null ? NONE : current.pitch.number;
            case 7: return current == null ? NONE : current.share;
            default: return OUTSIDE;
        }
    }

    // ---- what the calls have in common

    private static boolean isWithin(int number, int least, int most) {
        return number >= least && number <= most;
    }

    private Pitch pitchAt(int p) {
        return isWithin(p, 0, pitchCount - 1) ? pitches[p] : null;
    }

    private Gang gangAt(int g) {
        return isWithin(g, 0, gangCount - 1) ? gangs[g] : null;
    }

    private Take takeAt(int t) {
        return isWithin(t, 0, takeCount - 1) ? takes[t] : null;
    }

    private Sheet sheetAt(int k) {
        return isWithin(k, 0, sheets.length - 1) ? sheets[k] : null;
    }

    private int faulted(int fault) {
        latestFault = fault;
        return -10 - fault;
    }

    /** The SQUARES' SPANS, and a second set of them for a trial that may come to nothing. */
    private static final class Lode {
        static final int WIDTH = 8, HEIGHT = 6, SQUARES = WIDTH * HEIGHT, BEST = 1000;

        final int[] lows = new int[SQUARES];
        final int[] highs = new int[SQUARES];
        private final int[] triedLows = new int[SQUARES];
        private final int[] triedHighs = new int[SQUARES];
        /** D: by how much NEIGHBOURS may differ. */
        int law = BEST;

        Lode() {
            Arrays.fill(highs, BEST);
        }

        static boolean hasSquare(int x, int y) {
            return isWithin(x, 0, WIDTH - 1) && isWithin(y, 0, HEIGHT - 1);
        }

        static int numberOf(int x, int y) {
            return WIDTH * y + x;
        }

        void beginTrial() {
            System.arraycopy(lows, 0, triedLows, 0, SQUARES);
            System.arraycopy(highs, 0, triedHighs, 0, SQUARES);
        }

        /** A SQUARE that is there keeps, in the trial, what is common to its SPAN and low .. high. */
        void tryCommon(int square, int low, int high) {
            triedLows[square] = Math.max(triedLows[square], low);
            triedHighs[square] = Math.min(triedHighs[square], high);
        }

        /** NARROWING by d: how many SPANS changed, and the trial holds; or STATE, and it does not. */
        int endTrial(int d) {
            narrowTrial(d);
            int changed = 0;
            for (int s = 0; s < SQUARES; s++) {
                if (triedLows[s] > triedHighs[s]) return STATE;
                if (triedLows[s] != lows[s] || triedHighs[s] != highs[s]) changed++;
            }
            System.arraycopy(triedLows, 0, lows, 0, SQUARES);
            System.arraycopy(triedHighs, 0, highs, 0, SQUARES);
            law = d;
            return changed;
        }

        /**
         * Two sweeps are enough for "till none changes": what one SQUARE tells another loses D a step, so
         * only the shortest ways count, and one of those goes right and down first (the first sweep) and
         * then left and up (the second).
         */
        private void narrowTrial(int d) {
            for (int s = 0; s < SQUARES; s++) {
                if (s % WIDTH > 0) tryNeighbour(s, s - 1, d);
                if (s >= WIDTH) tryNeighbour(s, s - WIDTH, d);
            }
            for (int s = SQUARES - 1; s >= 0; s--) {
                if (s % WIDTH < WIDTH - 1) tryNeighbour(s, s + 1, d);
                if (s < SQUARES - WIDTH) tryNeighbour(s, s + WIDTH, d);
            }
        }

        private void tryNeighbour(int square, int neighbour, int d) {
            tryCommon(square, triedLows[neighbour] - d, triedHighs[neighbour] + d);
        }
    }

    private static final class Pitch {
        final int number, x, y, x2, y2, tons;
        int takesHad;
        /** The TAKE that is not SETTLED; null: the PITCH is not let. */
        Take take;

        Pitch(int number, int x, int y, int x2, int y2, int tons) {
            this.number = number;
            this.x = x;
            this.y = y;
            this.x2 = x2;
            this.y2 = y2;
            this.tons = tons;
        }

        boolean meets(int left, int top, int right, int bottom) {
            return x <= right && left <= x2 && y <= bottom && top <= y2;
        }

        long foretoldBy(int[] goodness) {
            long sum = 0;
            for (int row = y; row <= y2; row++) {
                for (int column = x; column <= x2; column++) sum += goodness[Lode.numberOf(column, row)];
            }
            return sum * tons;
        }

        int greatestOf(int[] goodness) {
            int greatest = 0;
            for (int row = y; row <= y2; row++) {
                for (int column = x; column <= x2; column++) {
                    greatest = Math.max(greatest, goodness[Lode.numberOf(column, row)]);
                }
            }
            return greatest;
        }
    }

    private static final class Auction {
        final Pitch pitch;
        /** What the latest BID is; ahead of any, what the AUCTION began at. */
        int share;
        int bids;
        /** The GANG that BID last; null: none did. */
        Gang bidder;

        Auction(Pitch pitch, int share) {
            this.pitch = pitch;
            this.share = share;
        }

        int mostShare() {
            return bids == 0 ? share : share - 1;
        }
    }

    private static final class Take {
        final int number, share;
        final Gang gang;
        final Pitch pitch;
        /** FORETOLD of the PITCH when the TAKE was struck. */
        long least, greatest;
        long worths, costs, ahead, pay;
        int parcels;
        boolean settled;

        Take(int number, Gang gang, Pitch pitch, int share) {
            this.number = number;
            this.gang = gang;
            this.pitch = pitch;
            this.share = share;
        }

        void begin() {
            pitch.take = this;
            pitch.takesHad++;
            gang.takesHad++;
            gang.letPitches++;
        }

        void end() {
            long debtTaken = gang.debtTaken();
            long due = share * worths / POUND - gang.costsBorne(costs) - ahead - debtTaken;
            pay = Math.max(due, 0);
            gang.owed += pay - due - debtTaken;
            settled = true;
            gang.letPitches--;
            pitch.take = null;
        }
    }

    private static final class Parcel {
        final Pitch pitch;
        final int goodness;

        Parcel(Pitch pitch, int goodness) {
            this.pitch = pitch;
            this.goodness = goodness;
        }

        boolean isSuspect(Lode lode) {
            return goodness > pitch.greatestOf(lode.highs);
        }
    }

    /** TRACE: the numbers that bodies leave, folded into one. */
    private static final class Trace {
        int number;

        void leave(int body) {
            number = 31 * number + body;
        }
    }

    private static class Gang {
        final int number;
        int takesHad, letPitches;
        /** DEBT. */
        long owed;

        Gang(int number) {
            this.number = number;
        }

        long costsBorne(long costs) {
            return costs;
        }

        long debtTaken() {
            return owed;
        }

        int telling(Trace trace) {
            return tellingOfAnyGang(trace);
        }

        /** GANG's body apart from its name, since OLD HANDS pass over FAMILY's to come to it. */
        final int tellingOfAnyGang(Trace trace) {
            trace.leave(1);
            return takesHad;
        }

        int greeting(Trace trace) {
            trace.leave(4);
            return 10 * number + GANG;
        }
    }

    private static class Family extends Gang {
        Family(int number) {
            super(number);
        }

        long costsBorne(long costs) {
            return costs / 2;
        }

        int telling(Trace trace) {
            trace.leave(2);
            return 10 + tellingOfAnyGang(trace);
        }

        int greeting(Trace trace) {
            trace.leave(5);
            return 6;
        }
    }

    private static final class OldHands extends Family {
        OldHands(int number) {
            super(number);
        }

        long debtTaken() {
            return owed / 2;
        }

        int telling(Trace trace) {
            trace.leave(3);
            return 3 * tellingOfAnyGang(trace);
        }

        int greeting(Trace trace) {
            trace.leave(6);
            return super.greeting(trace) + 1;
        }
    }

    /** A SHEET keeps room for its longest row and uses it again for each new one. */
    private static final class Sheet {
        static final int MOST_CELLS = 48, NO_LANE = -1, BYTES = 0, SHORTS = 1, INTS = 2;

        final int[] cells = new int[MOST_CELLS];
        int lane = NO_LANE;
        private int length;

        static boolean isLane(int lane) {
            return isWithin(lane, BYTES, INTS);
        }

        void renew(int newLane, int newLength) {
            Arrays.fill(cells, 0);
            lane = newLane;
            length = newLength;
        }

        boolean hasNothing() {
            return lane == NO_LANE;
        }

        int faultAs(int wantedLane) {
            if (hasNothing()) return NULL;
            return lane == wantedLane ? NO_FAULT : CAST;
        }

        boolean holds(int from, int count) {
            return from >= 0 && count >= 0 && (long) from + count <= length;
        }

        /** Whether one of count cells, which are all there, is above most. */
        boolean hasAbove(int most, int from, int count) {
            for (int c = 0; c < count; c++) {
                if (cells[from + c] > most) return true;
            }
            return false;
        }

        int cut(int number) {
            switch (lane) {
                case BYTES: return (byte) number;
                case SHORTS: return (short) number;
                default: return number;
            }
        }
    }
}
