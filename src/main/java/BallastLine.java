/**
 * A rail on sleepers, stones and soil: trains that sink it, machines that lift it, chords that tell
 * its shape, the stress in it, and the works that are chosen for a budget.
 */
public final class BallastLine {
    public static final int BAD = -1, FULL = -2, FINDING = -3, STATE = -4, NONE = -9;

    private static final int NOTHING = 1, BEYOND = 2, UNLIKE = 3, NOUGHT = 4, SIZE = 5;
    private static final int PLAIN = 0, WOOD = 1, STONE = 2, JOINT = 3;
    private static final int LEAST_SLEEPERS = 3, FIRST_SLEEPERS = 10, MOST_SLEEPERS = 40;
    private static final int FIRST_STONES = 5, MOST_STONES = 9;
    private static final int LONGEST_LINE = 4;
    private static final int MOST_HEIGHT = 10000;
    private static final int MOST_AXLES = 20, MOST_WEIGHT = 250, MOST_PASSES = 50;
    private static final int TABLE_PLACES = 16, TABLE_OFFSET = 1000;
    private static final int RUNS = 6, PLACES = 40, MOST_LAID = 100000, LONGEST_CHORD = 4;
    private static final int MOST_SHIFT = 5, SHIFT_OFFSET = 100, LEAST_TO_FIT = 11;
    private static final int STRETCHES = 4, FIRST_FREE = 250, MOST_PULL = 500;
    private static final int COLDEST = -400, HOTTEST = 600;
    private static final int MOST_WORKS = 14, MOST_COST = 1000, MOST_GAIN = 1000, MOST_BUDGET = 14000;
    private static final int COUNTS = 5, TOLD_THINGS = 4;

    private final Track track;
    private final Train train;
    private final Runs runs;
    private final Works works;
    private final int[] freeAt;
    private final int[] findingCounts;
    private int latestFinding;
    private long latestTold;

    public BallastLine() {
        track = new Track();
        train = new Train();
        runs = new Runs();
        works = new Works();
        freeAt = new int[STRETCHES];
        for (int s = 0; s < STRETCHES; s++) {
            freeAt[s] = FIRST_FREE;
        }
        findingCounts = new int[SIZE + 1];
        latestFinding = 0;
        latestTold = 0;
    }

    // ---- 1 sleepers, trains

    public int line(int n) {
        if (!within(n, LEAST_SLEEPERS, MOST_SLEEPERS)) {
            return BAD;
        }
        track.renew(n);
        return n;
    }

    public int sleeper(int i, int kind) {
        if (!track.has(i) || !within(kind, PLAIN, JOINT)) {
            return BAD;
        }
        int was = track.kinds[i];
        track.kinds[i] = kind;
        track.setLost(i, false);
        return was;
    }

    public int lose(int i, boolean is) {
        if (!track.has(i)) {
            return BAD;
        }
        int was = track.lost[i] ? 1 : 0;
        track.setLost(i, is);
        return was;
    }

    public int bed(int i, int v) {
        if (!track.has(i) || !within(v, -MOST_HEIGHT, MOST_HEIGHT)) {
            return BAD;
        }
        if (track.lost[i]) {
            return found(NOTHING);
        }
        int was = track.beds[i];
        track.setBed(i, v);
        return tell(was);
    }

    public int stones(int i, int v) {
        if (!track.has(i) || !within(v, 1, MOST_STONES)) {
            return BAD;
        }
        if (track.lost[i]) {
            return found(NOTHING);
        }
        int was = track.firmness[i];
        track.firmness[i] = v;
        return was;
    }

    public int told(int i, int what) {
        if (!track.has(i)) {
            return BAD;
        }
        switch (what) {
            case 0:
                return track.kinds[i];
            case 1:
                return track.firmness[i];
            case 2:
                return track.hundredths[i];
            case 3:
                return track.lost[i] ? 1 : 0;
            default:
                return BAD;
        }
    }

    public int mark(int i, int kind) {
        if (!track.has(i) || !within(kind, WOOD, JOINT)) {
            return BAD;
        }
        if (track.lost[i]) {
            return found(NOTHING);
        }
        if (!track.isOf(i, kind)) {
            return found(UNLIKE);
        }
        switch (kind) {
            case WOOD:
                return track.hundredths[i];
            case STONE:
                return track.firmness[i];
            default:
                return track.axlesOver[i];
        }
    }

    public int rail(int i) {
        if (!track.has(i)) {
            return BAD;
        }
        return tell(track.height(i));
    }

    public int gap(int i) {
        if (!track.has(i)) {
            return BAD;
        }
        if (track.lost[i]) {
            return found(NOTHING);
        }
        return track.height(i) - track.beds[i];
    }

    public int axle(int w) {
        if (!within(w, 1, MOST_WEIGHT)) {
            return BAD;
        }
        if (train.axles >= MOST_AXLES) {
            return FULL;
        }
        train.weights[train.axles] = w;
        train.axles++;
        return train.axles;
    }

    public int uncouple() {
        int were = train.axles;
        train.axles = 0;
        return were;
    }

    public int table(int i, int v) {
        if (!within(i, 0, TABLE_PLACES - 1)) {
            return BAD;
        }
        int was = train.sinkings[i];
        train.sinkings[i] = (byte) v;
        return was + TABLE_OFFSET;
    }

    public int pass(int n) {
        if (!within(n, 0, MOST_PASSES)) {
            return BAD;
        }
        if (train.axles == 0) {
            return STATE;
        }
        return train.roll(track, n);
    }

    public int mean() {
        int standing = track.standing(0, track.size - 1);
        if (standing == 0) {
            return found(NOUGHT);
        }
        return tell(floorShare(track.sumOfBeds(), standing));
    }

    // ---- 2 lifts, runs

    public int lift(int a, int b, int h) {
        if (!track.has(a) || !track.has(b) || a > b || !within(h, -MOST_HEIGHT, MOST_HEIGHT)) {
            return BAD;
        }
        int lifted = 0;
        for (int i = a; i <= b; i++) {
            if (track.raise(i, h)) {
                lifted++;
            }
        }
        return lifted;
    }

    public int measure(int r, int k) {
        if (!isRun(r) || !within(k, 1, LONGEST_CHORD)) {
            return BAD;
        }
        int was = runs.open(r);
        for (int i = 0; i < PLACES; i++) {
            runs.rows[r][i] = track.chord(i, k);
        }
        return was;
    }

    public int level(int r) {
        if (!isRun(r)) {
            return BAD;
        }
        int was = runs.open(r);
        for (int i = 0; i < PLACES; i++) {
            runs.rows[r][i] = track.has(i) ? track.height(i) : 0;
        }
        return was;
    }

    public int lay(int r, int i, int v) {
        if (!isRun(r) || !within(v, -MOST_LAID, MOST_LAID)) {
            return BAD;
        }
        if (!runs.there[r]) {
            return found(NOTHING);
        }
        if (!within(i, 0, PLACES - 1)) {
            return found(BEYOND);
        }
        int was = runs.rows[r][i];
        runs.rows[r][i] = v;
        return tell(was);
    }

    public int at(int r, int i) {
        if (!isRun(r)) {
            return BAD;
        }
        if (!runs.there[r]) {
            return found(NOTHING);
        }
        if (!within(i, 0, PLACES - 1)) {
            return found(BEYOND);
        }
        return tell(runs.rows[r][i]);
    }

    public int shape(int r, int s0, int s1) {
        if (!isRun(r) || !within(s0, -MOST_HEIGHT, MOST_HEIGHT) || !within(s1, -MOST_HEIGHT, MOST_HEIGHT)) {
            return BAD;
        }
        if (!runs.there[r]) {
            return found(NOTHING);
        }
        runs.unbend(r, s0, s1, track.size);
        return 1;
    }

    public int tear(int r) {
        if (!isRun(r)) {
            return BAD;
        }
        if (!runs.there[r]) {
            return found(NOTHING);
        }
        runs.there[r] = false;
        return 1;
    }

    public int copy(int r, int i, int to, int j, int n) {
        if (!isRun(r) || !isRun(to)) {
            return BAD;
        }
        if (n < 0) {
            return found(SIZE);
        }
        if (!runs.there[r] || !runs.there[to]) {
            return found(NOTHING);
        }
        if (!holdsPlaces(i, n) || !holdsPlaces(j, n)) {
            return found(BEYOND);
        }
        System.arraycopy(runs.rows[r], i, runs.rows[to], j, n);
        return 1;
    }

    public int fit(int r, int other) {
        if (!isRun(r) || !isRun(other)) {
            return BAD;
        }
        if (track.size < LEAST_TO_FIT) {
            return STATE;
        }
        if (!runs.there[r] || !runs.there[other]) {
            return found(NOTHING);
        }
        int shift = runs.bestShift(r, other, track.size);
        tell(runs.squaresApart(r, other, shift, track.size));
        return SHIFT_OFFSET + shift;
    }

    public int worst(int r) {
        if (!isRun(r)) {
            return BAD;
        }
        if (!runs.there[r]) {
            return found(NOTHING);
        }
        int place = runs.steepest(r, track.size);
        tell(runs.stepAfter(r, place));
        return place;
    }

    // ---- 3 stress, works

    public int pull(int stretch, int n) {
        if (!isStretch(stretch) || !within(n, -MOST_PULL, MOST_PULL)) {
            return BAD;
        }
        freeAt[stretch] += n;
        return 1;
    }

    public int cut(int stretch, int t) {
        if (!isStretch(stretch) || !isTemperature(t)) {
            return BAD;
        }
        int was = freeAt[stretch];
        freeAt[stretch] = t;
        return tell(was);
    }

    public int press(int stretch, int t) {
        if (!isStretch(stretch) || !isTemperature(t)) {
            return BAD;
        }
        return tell(pressOf(stretch, t));
    }

    public int margin(int stretch, int t) {
        if (!isStretch(stretch) || !isTemperature(t)) {
            return BAD;
        }
        int quarter = track.size / STRETCHES;
        int from = stretch * quarter;
        int to = stretch == STRETCHES - 1 ? track.size - 1 : from + quarter - 1;
        int standing = track.standing(from, to);
        if (standing == 0) {
            return found(NOUGHT);
        }
        int firm = cutShare(track.sumOfStones(from, to), standing);
        long left = 9000L + 300L * firm - 60L * track.greatestChord(from, to) - pressOf(stretch, t);
        tell(left);
        return left <= 0 ? 1 : 0;
    }

    public int work(int cost, int gain) {
        if (!within(cost, 1, MOST_COST) || !within(gain, 0, MOST_GAIN)) {
            return BAD;
        }
        if (works.size >= MOST_WORKS) {
            return FULL;
        }
        return works.add(cost, gain);
    }

    public int best(int budget) {
        if (!within(budget, 0, MOST_BUDGET)) {
            return BAD;
        }
        int bits = works.bestSet(budget);
        tell(bits);
        return works.gainOf(bits);
    }

    public int first(int budget) {
        if (!within(budget, 0, MOST_BUDGET)) {
            return BAD;
        }
        int bits = works.worstFirst(budget);
        tell(bits);
        return works.gainOf(bits);
    }

    // ---- 4 what is told

    public long asked() {
        return latestTold;
    }

    public int count(int what) {
        switch (what) {
            case 0:
                return track.size;
            case 1:
                return track.size - track.standing(0, track.size - 1);
            case 2:
                return train.axles;
            case 3:
                return runs.howMany();
            case 4:
                return works.size;
            default:
                return BAD;
        }
    }

    public int finding() {
        return latestFinding;
    }

    public int findings(int f) {
        if (!within(f, NOTHING, SIZE)) {
            return BAD;
        }
        return findingCounts[f];
    }

    public long digest() {
        long h = 17;
        for (int what = 0; what < COUNTS; what++) {
            h = 31 * h + count(what);
        }
        for (int i = 0; i < track.size; i++) {
            for (int what = 0; what < TOLD_THINGS; what++) {
                h = 31 * h + told(i, what);
            }
            h = 31 * h + track.beds[i];
        }
        for (int s = 0; s < STRETCHES; s++) {
            h = 31 * h + freeAt[s];
        }
        for (int r = 0; r < RUNS; r++) {
            h = runs.digestOn(h, r);
        }
        return h;
    }

    private int found(int f) {
        latestFinding = f;
        findingCounts[f]++;
        return FINDING;
    }

    private int tell(long v) {
        latestTold = v;
        return 1;
    }

    private int pressOf(int stretch, int t) {
        return (t - freeAt[stretch]) * 24;
    }

    private static boolean within(int v, int least, int most) {
        return v >= least && v <= most;
    }

    private static boolean isRun(int r) {
        return within(r, 0, RUNS - 1);
    }

    private static boolean isStretch(int s) {
        return within(s, 0, STRETCHES - 1);
    }

    private static boolean isTemperature(int t) {
        return within(t, COLDEST, HOTTEST);
    }

    // No i + n here: a sum of such numbers may wrap.
    private static boolean holdsPlaces(int i, int n) {
        return n <= PLACES && within(i, 0, PLACES - n);
    }

    private static int cutShare(int all, int among) {
        return among < 1 ? 0 : all / among;
    }

    private static int floorShare(int all, int among) {
        return among < 1 ? 0 : Math.floorDiv(all, among);
    }

    /** The SLEEPERS, and THE RAIL that lies on their BEDS. */
    private static final class Track {
        // BEDS stay far above it: 512 calls can't sink one by more than some millions.
        private static final int NO_LINE = -1000000000;
        private static final int UNSURE = 0, RESTS = 1, HANGS = 2;

        private final int[] kinds = new int[MOST_SLEEPERS];
        private final int[] beds = new int[MOST_SLEEPERS];
        private final int[] firmness = new int[MOST_SLEEPERS];
        private final int[] hundredths = new int[MOST_SLEEPERS];
        private final int[] axlesOver = new int[MOST_SLEEPERS];
        private final boolean[] lost = new boolean[MOST_SLEEPERS];
        // Kept, as each axle asks for three GAPS and few BEDS move in between.
        private final int[] hanging = new int[MOST_SLEEPERS];
        private int size;

        private Track() {
            renew(FIRST_SLEEPERS);
        }

        private void renew(int n) {
            size = n;
            for (int i = 0; i < MOST_SLEEPERS; i++) {
                kinds[i] = PLAIN;
                beds[i] = 0;
                firmness[i] = FIRST_STONES;
                hundredths[i] = 0;
                axlesOver[i] = 0;
                lost[i] = false;
                hanging[i] = UNSURE;
            }
        }

        // Not by within(): from pass() it would stand nine calls deep.
        private boolean has(int i) {
            return i >= 0 && i < size;
        }

        private boolean stands(int i) {
            return has(i) && !lost[i];
        }

        private boolean isOf(int i, int kind) {
            return kinds[i] == kind || kind == WOOD && kinds[i] == JOINT;
        }

        private void setLost(int i, boolean is) {
            lost[i] = is;
            forgetHanging(i);
        }

        private void setBed(int i, int v) {
            beds[i] = v;
            forgetHanging(i);
        }

        // A line above a SLEEPER ends LONGEST_LINE - 1 away from it at most, as it goes on behind it.
        private void forgetHanging(int i) {
            int last = Math.min(size - 1, i + LONGEST_LINE - 1);
            for (int j = Math.max(0, i - LONGEST_LINE + 1); j <= last; j++) {
                hanging[j] = UNSURE;
            }
        }

        private int height(int i) {
            int highest = stands(i) ? beds[i] : NO_LINE;
            for (int a = Math.max(0, i - LONGEST_LINE + 1); a < i; a++) {
                int last = Math.min(size - 1, a + LONGEST_LINE);
                for (int b = i + 1; b <= last && !lost[a]; b++) {
                    if (!lost[b]) {
                        highest = Math.max(highest, lineAt(a, b, i));
                    }
                }
            }
            return highest == NO_LINE ? nearestBed(i) : highest;
        }

        private int lineAt(int a, int b, int i) {
            return floorShare(beds[a] * (b - i) + beds[b] * (i - a), b - a);
        }

        private int nearestBed(int i) {
            for (int away = 0; away < size; away++) {
                if (stands(i - away)) {
                    return beds[i - away];
                }
                if (stands(i + away)) {
                    return beds[i + away];
                }
            }
            return 0;
        }

        private boolean bears(int i) {
            if (!stands(i)) {
                return false;
            }
            if (hanging[i] == UNSURE) {
                hanging[i] = height(i) > beds[i] ? HANGS : RESTS;
            }
            return hanging[i] == RESTS;
        }

        private boolean jointAt(int i) {
            return stands(i) && kinds[i] == JOINT;
        }

        private int sink(int i, int byHundredths) {
            int kept = hundredths[i] + byHundredths;
            int down = kept / 100;
            hundredths[i] = kept % 100;
            if (down > 0) {
                setBed(i, beds[i] - down);
            }
            return down;
        }

        private boolean raise(int i, int h) {
            if (!stands(i) || beds[i] >= h) {
                return false;
            }
            setBed(i, h);
            hundredths[i] = 0;
            firmness[i] = Math.max(1, firmness[i] - 1);
            return true;
        }

        private int chord(int i, int k) {
            if (!has(i - k) || !has(i + k)) {
                return 0;
            }
            return 2 * height(i) - height(i - k) - height(i + k);
        }

        private int greatestChord(int from, int to) {
            int greatest = 0;
            for (int i = from; i <= to; i++) {
                greatest = Math.max(greatest, Math.abs(chord(i, 1)));
            }
            return greatest;
        }

        private int standing(int from, int to) {
            int n = 0;
            for (int i = from; i <= to; i++) {
                if (stands(i)) {
                    n++;
                }
            }
            return n;
        }

        private int sumOfStones(int from, int to) {
            int sum = 0;
            for (int i = from; i <= to; i++) {
                if (stands(i)) {
                    sum += firmness[i];
                }
            }
            return sum;
        }

        private int sumOfBeds() {
            int sum = 0;
            for (int i = 0; i < size; i++) {
                if (!lost[i]) {
                    sum += beds[i];
                }
            }
            return sum;
        }
    }

    /** The axles, and THE TABLE by which SLEEPERS sink under them. */
    private static final class Train {
        private final int[] weights = new int[MOST_AXLES];
        private final byte[] sinkings = new byte[TABLE_PLACES];
        private int axles = 0;

        private int roll(Track track, int times) {
            int down = 0;
            for (int n = 0; n < times; n++) {
                for (int i = 0; i < track.size; i++) {
                    for (int a = 0; a < axles; a++) {
                        down += pressAt(track, i, weights[a]);
                    }
                }
            }
            return down;
        }

        private int pressAt(Track track, int i, int weight) {
            int load = weight;
            if (track.jointAt(i)) {
                track.axlesOver[i]++;
                load = weight + weight / 2;
            }
            // All three are asked before one of them sinks: GAPS are as the axle comes.
            int before = track.bears(i - 1) ? 1 : 0;
            int here = track.bears(i) ? 2 : 0;
            int behind = track.bears(i + 1) ? 1 : 0;
            int parts = before + here + behind;
            return settle(track, i - 1, load, before, parts)
                    + settle(track, i, load, here, parts)
                    + settle(track, i + 1, load, behind, parts);
        }

        // One that bears so little that it is cut to 0 still bears: it sinks by THE TABLE's place 0.
        private int settle(Track track, int i, int load, int part, int parts) {
            if (part == 0 || !track.has(i)) {
                return 0;
            }
            int borne = cutShare(load * part, parts);
            int place = Math.min(cutShare(borne, track.firmness[i]), TABLE_PLACES - 1);
            int sinking = Math.max(0, sinkings[place]);
            if (track.isOf(i, WOOD)) {
                sinking -= sinking / 4;
            } else if (track.isOf(i, STONE)) {
                sinking += sinking / 4;
            }
            return track.sink(i, sinking);
        }
    }

    /** Rows of ints that may be missing. */
    private static final class Runs {
        private final int[][] rows = new int[RUNS][PLACES];
        private final boolean[] there = new boolean[RUNS];

        private int open(int r) {
            int was = there[r] ? 1 : 0;
            there[r] = true;
            return was;
        }

        private int howMany() {
            int n = 0;
            for (int r = 0; r < RUNS; r++) {
                if (there[r]) {
                    n++;
                }
            }
            return n;
        }

        // Each height takes the place of the next step's chord, so that chord is held ahead.
        private void unbend(int r, int s0, int s1, int size) {
            int[] row = rows[r];
            int chord = row[1];
            row[0] = s0;
            row[1] = s1;
            for (int i = 1; i <= size - 2; i++) {
                int next = row[i + 1];
                row[i + 1] = 2 * row[i] - row[i - 1] - chord;
                chord = next;
            }
            for (int i = size; i < PLACES; i++) {
                row[i] = 0;
            }
        }

        // In the order in which alike ones win, so that only a lesser sum takes over.
        private int bestShift(int r, int other, int size) {
            int best = 0;
            long least = squaresApart(r, other, 0, size);
            for (int apart = 1; apart <= MOST_SHIFT; apart++) {
                for (int d = -apart; d <= apart; d += 2 * apart) {
                    long sum = squaresApart(r, other, d, size);
                    if (sum < least) {
                        best = d;
                        least = sum;
                    }
                }
            }
            return best;
        }

        private long squaresApart(int r, int other, int d, int size) {
            long sum = 0;
            for (int i = MOST_SHIFT; i < size - MOST_SHIFT; i++) {
                long apart = (long) rows[r][i] - rows[other][i + d];
                sum += apart * apart;
            }
            return sum;
        }

        private int steepest(int r, int size) {
            int place = 0;
            for (int i = 1; i < size - 1; i++) {
                if (stepAfter(r, i) > stepAfter(r, place)) {
                    place = i;
                }
            }
            return place;
        }

        private long stepAfter(int r, int i) {
            return Math.abs((long) rows[r][i] - rows[r][i + 1]);
        }

        private long digestOn(long h, int r) {
            if (!there[r]) {
                return 31 * h - 1;
            }
            long on = h;
            for (int i = 0; i < PLACES; i++) {
                on = 31 * on + rows[r][i];
            }
            return on;
        }
    }

    /** The WORKS that a budget chooses among. */
    private static final class Works {
        private final int[] costs = new int[MOST_WORKS];
        private final int[] gains = new int[MOST_WORKS];
        // What all WORKS of a lesser number cost and gain together.
        private final int[] costsBelow = new int[MOST_WORKS];
        private final int[] gainsBelow = new int[MOST_WORKS];
        // The numbers, in the order of WORST FIRST.
        private final int[] order = new int[MOST_WORKS];
        private int size = 0;

        private int add(int cost, int gain) {
            int number = size;
            costs[number] = cost;
            gains[number] = gain;
            if (number > 0) {
                costsBelow[number] = costsBelow[number - 1] + costs[number - 1];
                gainsBelow[number] = gainsBelow[number - 1] + gains[number - 1];
            }
            int place = number;
            while (place > 0 && isWorse(number, order[place - 1])) {
                order[place] = order[place - 1];
                place--;
            }
            order[place] = number;
            size++;
            return number;
        }

        // Gain by cost, compared without a division.
        private boolean isWorse(int a, int b) {
            return gains[a] * costs[b] > gains[b] * costs[a];
        }

        // All sets by rising bits: the next set takes one WORK more and lets all lesser ones go.
        private int bestSet(int budget) {
            int best = 0;
            int bestCost = 0;
            int bestGain = 0;
            int cost = 0;
            int gain = 0;
            for (int bits = 1; bits < 1 << size; bits++) {
                int taken = Integer.bitCount((bits & -bits) - 1);
                cost += costs[taken] - costsBelow[taken];
                gain += gains[taken] - gainsBelow[taken];
                if (cost <= budget && (gain > bestGain || gain == bestGain && cost < bestCost)) {
                    best = bits;
                    bestCost = cost;
                    bestGain = gain;
                }
            }
            return best;
        }

        private int worstFirst(int budget) {
            int bits = 0;
            int left = budget;
            for (int place = 0; place < size; place++) {
                int number = order[place];
                if (costs[number] <= left) {
                    left -= costs[number];
                    bits |= 1 << number;
                }
            }
            return bits;
        }

        private int gainOf(int bits) {
            int gain = 0;
            for (int number = 0; number < size; number++) {
                if ((bits >> number & 1) == 1) {
                    gain += gains[number];
                }
            }
            return gain;
        }
    }
}
