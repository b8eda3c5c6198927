/**
 * A simulator of data placement by weighted straws: a map of halls, racks and disks and a hash function tell
 * on which disks the copies of each group of keys are. The document ../shared/DOC.md says what each method does.
 *
 * Everything that a call needs is made once, in the constructor: no call makes an object.
 */
public final class StrawMap {
    public static final int BAD = -1, NO = -2, FULL = -3, NONE = -4;

    private static final String START_TEXT =
        "h;r;d4,9;d2,9;r;d3,9;d3,9;h;r;d5,9;d1,9;r;d6,9;h;r;d2,9;d8,9;c3,2,0;t20;";

    private static final int ROOT = 0;
    private static final int FIRST_HALL = 1;
    private static final int FIRST_RACK = 4;
    private static final int FIRST_DISK = 10;
    private static final int NODES = 22;
    private static final int MOST_HALLS = 3;
    private static final int MOST_RACKS = 6;
    private static final int MOST_DISKS = 12;

    private static final int GROUPS = 16;
    private static final int MOST_COPIES = 4;
    private static final int MOST_LEVEL = 3;
    private static final int MOST_TRIES = 24;
    private static final int MOST_WEIGHT = 40;
    private static final int MOST_REWEIGHT = 16;
    private static final int MOST_OVERRIDES = 6;
    private static final int MOST_OBSERVATIONS = 6;
    private static final int MOST_SIZE = 9999;
    private static final int MOST_KEY = 9999;
    private static final int MOST_NUMBER = 99;
    private static final int KNOWN_EPOCHS = 5;
    private static final int FIXED = 1;

    private static final int TEXT_LENGTH = 200;
    private static final int FIRST_LETTER = 32;
    private static final int LAST_LETTER = 126;

    private static final int PRIME = 65521;
    private static final int LAST_DRAW = 99;

    private final Text text = new Text();
    private final Straws straws = new Straws();
    /** The maps of the latest epochs, the newest first; those behind the known ones wait to be used. */
    private final Plan[] latest = new Plan[KNOWN_EPOCHS];
    /** A map for questions about other weights, and for a text that may turn out to be faulty. */
    private final Plan trial = new Plan();
    private final Data data = new Data();
    /** The data of a simulated run of failures. */
    private final Data rehearsal = new Data();
    private final Observations observations = new Observations();
    private Plan present;
    private int epoch;

    public StrawMap() {
        for (int i = 0; i < KNOWN_EPOCHS; i++) {
            latest[i] = new Plan();
        }
        present = latest[0];
        for (int i = 0; i < START_TEXT.length(); i++) {
            text.append(START_TEXT.charAt(i));
        }
        text.readInto(trial);
        trial.settleAll(straws);
        beginWithTrial();
        text.length = 0;
    }

    // ---- the map

    public int write(int letter) {
        if (letter < FIRST_LETTER || letter > LAST_LETTER) {
            return BAD;
        }
        if (text.length >= TEXT_LENGTH) {
            return FULL;
        }
        text.append((char) letter);
        return text.length;
    }

    public int wipe() {
        int before = text.length;
        text.length = 0;
        return before;
    }

    public int fault() {
        return text.readInto(trial);
    }

    public int lay() {
        if (text.readInto(trial) != NONE || trial.tree.disks == 0) {
            return NO;
        }
        trial.settleAll(straws);
        beginWithTrial();
        return present.tree.disks;
    }

    public int node(int n, int what) {
        Tree tree = present.tree;
        if (!tree.isNode(n) || what < 0 || what > 6 || (what > 2 && !tree.isDisk(n))) {
            return BAD;
        }
        switch (what) {
            case 0:
                return tree.weight[n];
            case 1:
                return tree.above[n];
            case 2:
                return tree.countBelow(n);
            case 3:
                return present.reweight[n];
            case 4:
                return present.isFull(n) ? 1 : 0;
            case 5:
                return present.capacity[n];
            default:
                return data.isUp(n) ? 1 : 0;
        }
    }

    public int override(int i, int what) {
        if (i < 0 || i >= present.diversions.number || what < 0 || what > 3) {
            return BAD;
        }
        switch (what) {
            case 0:
                return present.diversions.ofGroup[i];
            case 1:
                return present.diversions.from[i];
            case 2:
                return present.diversions.to[i];
            default:
                return present.diversions.works[i];
        }
    }

    // ---- changes of the map

    public int weigh(int d, int w) {
        if (!present.tree.isDisk(d) || !isWeight(w)) {
            return BAD;
        }
        int before = present.tree.weight[d];
        if (before == w) {
            return NO;
        }
        beginEpoch(present);
        present.tree.weight[d] = w;
        present.settleAll(straws);
        return before;
    }

    public int reweigh(int d, int r) {
        if (!present.tree.isDisk(d) || r < 0 || r > MOST_REWEIGHT) {
            return BAD;
        }
        int before = present.reweight[d];
        if (before == r) {
            return NO;
        }
        beginEpoch(present);
        present.reweight[d] = r;
        present.settleAll(straws);
        return before;
    }

    public int refill() {
        int loaded = 0;
        for (int d = FIRST_DISK; d < present.tree.endOfDisks(); d++) {
            if (data.sizeOn(d, data.holders) >= present.capacity[d]) {
                loaded |= bitOf(d);
            }
        }
        int changed = Integer.bitCount(loaded ^ present.fullSet);
        if (changed == 0) {
            return NO;
        }
        beginEpoch(present);
        present.fullSet = loaded;
        present.settleAll(straws);
        return changed;
    }

    public int divert(int g, int from, int to) {
        if (!isGroup(g) || !present.tree.isDisk(from) || !present.tree.isDisk(to) || from == to) {
            return BAD;
        }
        if (present.diversions.has(g, from, to)) {
            return NO;
        }
        if (present.diversions.number >= MOST_OVERRIDES) {
            return FULL;
        }
        beginEpoch(present);
        present.diversions.add(g, from, to);
        present.settleAll(straws);
        return present.diversions.number;
    }

    public int lift(int i) {
        if (i < 0 || i >= present.diversions.number) {
            return BAD;
        }
        beginEpoch(present);
        present.diversions.removeAt(i);
        present.settleAll(straws);
        return present.diversions.number;
    }

    public int rule(int n, int l, int m) {
        if (!Plan.isRule(n, l, m)) {
            return BAD;
        }
        int before = 100 * present.copies + 10 * present.level + present.mode;
        if (before == 100 * n + 10 * l + m) {
            return NO;
        }
        beginEpoch(present);
        present.setRule(n, l, m);
        present.settleAll(straws);
        return before;
    }

    public int rack(int h) {
        if (!present.tree.isHall(h)) {
            return BAD;
        }
        if (present.tree.racks >= MOST_RACKS) {
            return FULL;
        }
        beginEpoch(present);
        present.tree.addRack(h);
        present.settleAll(straws);
        return FIRST_RACK + present.tree.racks - 1;
    }

    public int disk(int r, int w, int c) {
        if (!present.tree.isRack(r) || !isWeight(w) || c < 0 || c > MOST_NUMBER) {
            return BAD;
        }
        if (present.tree.disks >= MOST_DISKS) {
            return FULL;
        }
        beginEpoch(present);
        present.addDisk(r, w, c);
        int added = present.tree.endOfDisks() - 1;
        data.setUp(added, true);
        present.settleAll(straws);
        return added;
    }

    public int move(int n, int m) {
        Tree tree = present.tree;
        boolean rackToHall = tree.isRack(n) && tree.isHall(m);
        boolean diskToRack = tree.isDisk(n) && tree.isRack(m);
        if (!rackToHall && !diskToRack) {
            return BAD;
        }
        int before = tree.above[n];
        if (before == m) {
            return NO;
        }
        beginEpoch(present);
        present.tree.above[n] = m;
        present.settleAll(straws);
        return before;
    }

    public int back(int epoch) {
        Plan then = planOf(epoch);
        if (then == null) {
            return BAD;
        }
        if (epoch == this.epoch || then.tree.racks < present.tree.racks || then.tree.disks < present.tree.disks) {
            return NO;
        }
        beginEpoch(then);
        return this.epoch;
    }

    // ---- straws

    public int group(int k) {
        return isKey(k) ? groupOf(k) : BAD;
    }

    public int draw(int g, int n, int t) {
        if (!isGroup(g) || !present.tree.isNode(n) || t < 0 || t > LAST_DRAW) {
            return BAD;
        }
        return Straws.drawOf(g, n, t);
    }

    public int want(int u) {
        return u < 1 || u > PRIME ? BAD : Straws.wantOf(u);
    }

    public int chosen(int g, int t, int n) {
        Tree tree = present.tree;
        if (!isGroup(g) || t < 0 || t > LAST_DRAW || !tree.isNode(n) || tree.isDisk(n)) {
            return BAD;
        }
        return tree.choiceAt(straws, g, t, n);
    }

    // ---- placements

    public int place(int g, int c) {
        return isGroup(g) && isCopy(c) ? present.copyOf(g, c) : BAD;
    }

    public int taken(int g, int c) {
        return isGroup(g) && isCopy(c) ? present.tryOf[MOST_COPIES * g + c] : BAD;
    }

    public int groups(int n) {
        if (!present.tree.isNode(n)) {
            return BAD;
        }
        int disks = present.tree.disksWithin(n);
        int found = 0;
        for (int g = 0; g < GROUPS; g++) {
            if ((present.placed[g] & disks) != 0) {
                found |= 1 << g;
            }
        }
        return found;
    }

    public int spread() {
        return present.spreadOfPairs();
    }

    public int share(int n, int part) {
        if (!present.tree.isNode(n) || part < 0 || part > 1) {
            return BAD;
        }
        int whole = present.tree.weight[ROOT];
        int own = present.tree.weight[n];
        int divisor = commonDivisor(whole, own);
        if (whole == 0 || divisor == 0) {
            return NONE;
        }
        return (part == 0 ? own : whole) / divisor;
    }

    // ---- other maps

    public int old(int epoch, int g, int c) {
        if (!isGroup(g) || !isCopy(c)) {
            return BAD;
        }
        Plan then = planOf(epoch);
        return then == null ? NONE : then.copyOf(g, c);
    }

    public int since(int epoch, int what) {
        if (what < 0 || what > 2) {
            return BAD;
        }
        Plan then = planOf(epoch);
        if (then == null) {
            return NONE;
        }
        int added = 0;
        int kept = 0;
        int same = 0;
        for (int g = 0; g < GROUPS; g++) {
            added += Integer.bitCount(present.placed[g] & ~then.placed[g]);
            kept += Integer.bitCount(present.placed[g] & then.placed[g]);
            if (present.hasSameCopies(then, g)) {
                same |= 1 << g;
            }
        }
        return what == 0 ? added : what == 1 ? kept : same;
    }

    public int would(int d, int w, int what) {
        if (!present.tree.isDisk(d) || !isWeight(w) || what < 0 || what > 2) {
            return BAD;
        }
        int counted = present.tree.disksWithin(ROOT);
        if (what == 1) {
            counted = bitOf(d);
        } else if (what == 2) {
            counted = present.tree.disksWithin(present.tree.hallOf(d));
        }
        trial.copyFrom(present);
        trial.tree.weight[d] = w;
        trial.settleAll(straws);
        int pairs = 0;
        for (int g = 0; g < GROUPS; g++) {
            pairs += Integer.bitCount(trial.placed[g] & ~present.placed[g] & counted);
        }
        return pairs;
    }

    public int least(int d, int n) {
        if (!present.tree.isDisk(d) || n < 1 || n > GROUPS) {
            return BAD;
        }
        trial.copyFrom(present);
        for (int w = 0; w <= MOST_WEIGHT; w++) {
            trial.tree.weight[d] = w;
            trial.settleAll(straws);
            if (trial.countPairs(d) >= n) {
                return w;
            }
        }
        return NONE;
    }

    public int even(int what) {
        if (what < 0 || what > 2) {
            return BAD;
        }
        int bestDisk = NONE;
        int bestWeight = NONE;
        int bestSpread = present.spreadOfPairs();
        trial.copyFrom(present);
        for (int d = FIRST_DISK; d < present.tree.endOfDisks(); d++) {
            int own = present.tree.weight[d];
            for (int w = own + 1; w >= own - 1; w -= 2) {
                if (w < 1 || w > MOST_WEIGHT || !present.takesPart(d)) {
                    continue;
                }
                trial.tree.weight[d] = w;
                trial.settleAll(straws);
                int spread = trial.spreadOfPairs();
                if (spread < bestSpread) {
                    bestDisk = d;
                    bestWeight = w;
                    bestSpread = spread;
                }
            }
            trial.tree.weight[d] = own;
        }
        if (bestDisk == NONE) {
            return NONE;
        }
        return what == 0 ? bestDisk : what == 1 ? bestWeight : bestSpread;
    }

    // ---- data

    public int put(int k, int size) {
        if (!isKey(k) || size < 1 || size > MOST_NUMBER) {
            return BAD;
        }
        int g = groupOf(k);
        if ((present.placed[g] & data.upSet & data.holders[g]) == 0) {
            return NO;
        }
        if (data.size[g] + size > MOST_SIZE) {
            return FULL;
        }
        data.size[g] += size;
        data.holders[g] &= data.upSet;
        return data.size[g];
    }

    public int tick(int m) {
        return m < 1 || m > 8 ? BAD : data.makeTick(present, m);
    }

    public int up(int d, int is) {
        if (!present.tree.isDisk(d) || is < 0 || is > 1) {
            return BAD;
        }
        if (data.isUp(d) == (is == 1)) {
            return NO;
        }
        data.setUp(d, is == 1);
        return Integer.bitCount(data.upSet);
    }

    public int fail(int d) {
        return present.tree.isDisk(d) ? data.letFail(d) : BAD;
    }

    public int held(int g, int what) {
        if (!isGroup(g) || what < 0 || what > 2) {
            return BAD;
        }
        switch (what) {
            case 0:
                return data.holders[g];
            case 1:
                return data.size[g];
            default:
                return data.serverOf(present, g);
        }
    }

    public int load(int d, int what) {
        if (!present.tree.isDisk(d) || what < 0 || what > 1) {
            return BAD;
        }
        return what == 0 ? data.sizeOn(d, data.holders) : data.sizeOn(d, present.placed);
    }

    public int loses(int n, int m) {
        if (!present.tree.isNode(n) || !present.tree.isNode(m)) {
            return BAD;
        }
        int gone = present.tree.disksWithin(n) | present.tree.disksWithin(m);
        int found = 0;
        for (int g = 0; g < GROUPS; g++) {
            if (data.holders[g] != 0 && (data.holders[g] & ~gone) == 0) {
                found |= 1 << g;
            }
        }
        return found;
    }

    public int storm(int z, int n, int what) {
        if (z < 0 || z > 9999 || n < 1 || n > 30 || what < 0 || what > 2) {
            return BAD;
        }
        rehearsal.copyFrom(data);
        int copyings = 0;
        for (int k = 0; k < n; k++) {
            long x = 7919L * z + 6151L * k + 1;
            rehearsal.strike(present, (int) (x * x % PRIME));
            copyings += rehearsal.makeTick(present, 2);
        }
        switch (what) {
            case 0:
                return rehearsal.countLost();
            case 1:
                return copyings;
            default:
                return Integer.bitCount(rehearsal.upSet);
        }
    }

    // ---- observations

    public int seen(int g, int d, int is) {
        if (!isGroup(g) || !present.tree.isDisk(d) || is < 0 || is > 1) {
            return BAD;
        }
        if (observations.number >= MOST_OBSERVATIONS) {
            return FULL;
        }
        observations.add(g, d, is == 1);
        return observations.number;
    }

    public int forget() {
        int before = observations.number;
        observations.number = 0;
        return before;
    }

    public int weights(int d, int what) {
        if (!present.tree.isDisk(d) || what < 0 || what > 2) {
            return BAD;
        }
        int fitting = 0;
        int smallest = NONE;
        int greatest = NONE;
        trial.copyFrom(present);
        for (int w = 0; w <= MOST_WEIGHT; w++) {
            trial.tree.weight[d] = w;
            trial.tree.sumWeights();
            if (observations.areTrueIn(trial, straws)) {
                fitting++;
                smallest = smallest == NONE ? w : smallest;
                greatest = w;
            }
        }
        return what == 0 ? fitting : what == 1 ? smallest : greatest;
    }

    public int count(int what) {
        switch (what) {
            case 0:
                return present.tree.halls;
            case 1:
                return present.tree.racks;
            case 2:
                return present.tree.disks;
            case 3:
                return present.copies;
            case 4:
                return present.level;
            case 5:
                return present.mode;
            case 6:
                return present.tries;
            case 7:
                return present.diversions.number;
            case 8:
                return epoch;
            case 9:
                return Math.min(epoch, KNOWN_EPOCHS);
            case 10:
                return Integer.bitCount(data.upSet);
            case 11:
                return Integer.bitCount(present.fullSet);
            case 12:
                return data.countLost();
            case 13:
                return data.countWaiting();
            case 14:
                return data.countIncomplete(present);
            case 15:
                return observations.number;
            case 16:
                return text.length;
            default:
                return BAD;
        }
    }

    // ---- what several methods share

    private static boolean isGroup(int g) {
        return g >= 0 && g < GROUPS;
    }

    private static boolean isCopy(int c) {
        return c >= 0 && c < MOST_COPIES;
    }

    private static boolean isWeight(int w) {
        return w >= 0 && w <= MOST_WEIGHT;
    }

    private static boolean isKey(int k) {
        return k >= 0 && k <= MOST_KEY;
    }

    private static int groupOf(int k) {
        return 7919 * k % PRIME % GROUPS;
    }

    /** The bit of a disk in a set of disks. */
    private static int bitOf(int d) {
        return 1 << (d - FIRST_DISK);
    }

    /** The weights of a map are at most 480, so that far fewer than 64 rounds are needed. */
    private static int commonDivisor(int a, int b) {
        int greater = a;
        int smaller = b;
        for (int round = 0; round < 64 && smaller != 0; round++) {
            int rest = greater % smaller;
            greater = smaller;
            smaller = rest;
        }
        return greater;
    }

    /** The map of an epoch; null if it is not known. */
    private Plan planOf(int wanted) {
        if (wanted < 1 || wanted > epoch || epoch - wanted >= KNOWN_EPOCHS) {
            return null;
        }
        return latest[epoch - wanted];
    }

    /**
     * Begins a new epoch, whose map is a copy of another one. The room of the oldest map is used again; a map
     * may so be copied onto itself, which does no harm.
     */
    private void beginEpoch(Plan source) {
        Plan next = latest[KNOWN_EPOCHS - 1];
        for (int i = KNOWN_EPOCHS - 1; i > 0; i--) {
            latest[i] = latest[i - 1];
        }
        latest[0] = next;
        next.copyFrom(source);
        present = next;
        epoch++;
    }

    /** Makes the map that has been read into the trial the first one. */
    private void beginWithTrial() {
        present.copyFrom(trial);
        epoch = 1;
        data.begin(present);
        observations.number = 0;
    }

    /** The lengths of straws, which depend on nothing but their three numbers and are kept once computed. */
    private static final class Straws {
        /** 0 where nothing has been computed yet: no straw wants less than 1. */
        private final int[] kept = new int[GROUPS * MOST_TRIES * NODES];

        static int drawOf(int g, int n, int t) {
            long y = 7919L * g + 613L * n + 4093L * t + 1;
            return 1 + (int) (y * y * y % PRIME);
        }

        static int wantOf(int u) {
            int e = 0;
            while (e < 16 && (u >> (e + 1)) > 0) {
                e++;
            }
            long v = (long) u << (16 - e);
            int p = 0;
            for (int i = 0; i < 12; i++) {
                v = (v * v) >> 16;
                p = 2 * p;
                if (v >= 131072) {
                    v = v >> 1;
                    p++;
                }
            }
            return 65536 - 4096 * e - p;
        }

        int lengthOf(int g, int n, int t) {
            if (t >= MOST_TRIES) {
                return wantOf(drawOf(g, n, t));
            }
            int i = (g * MOST_TRIES + t) * NODES + n;
            if (kept[i] == 0) {
                kept[i] = wantOf(drawOf(g, n, t));
            }
            return kept[i];
        }
    }

    /** The nodes with their weights. */
    private static final class Tree {
        int halls;
        int racks;
        int disks;
        final int[] above = new int[NODES];
        final int[] weight = new int[NODES];

        void clear() {
            halls = 0;
            racks = 0;
            disks = 0;
            above[ROOT] = NONE;
        }

        void copyFrom(Tree other) {
            halls = other.halls;
            racks = other.racks;
            disks = other.disks;
            System.arraycopy(other.above, 0, above, 0, NODES);
            System.arraycopy(other.weight, 0, weight, 0, NODES);
        }

        int endOfDisks() {
            return FIRST_DISK + disks;
        }

        boolean isHall(int n) {
            return n >= FIRST_HALL && n < FIRST_HALL + halls;
        }

        boolean isRack(int n) {
            return n >= FIRST_RACK && n < FIRST_RACK + racks;
        }

        boolean isDisk(int n) {
            return n >= FIRST_DISK && n < FIRST_DISK + disks;
        }

        boolean isNode(int n) {
            return n == ROOT || isHall(n) || isRack(n) || isDisk(n);
        }

        boolean addHall() {
            if (halls >= MOST_HALLS) {
                return false;
            }
            above[FIRST_HALL + halls] = ROOT;
            halls++;
            return true;
        }

        boolean addRack(int hall) {
            if (racks >= MOST_RACKS || !isHall(hall)) {
                return false;
            }
            above[FIRST_RACK + racks] = hall;
            racks++;
            return true;
        }

        boolean addDisk(int rack, int w) {
            if (disks >= MOST_DISKS || !isRack(rack)) {
                return false;
            }
            above[FIRST_DISK + disks] = rack;
            weight[FIRST_DISK + disks] = w;
            disks++;
            return true;
        }

        void sumWeights() {
            for (int n = ROOT; n < FIRST_DISK; n++) {
                weight[n] = 0;
            }
            for (int d = FIRST_DISK; d < endOfDisks(); d++) {
                int rack = above[d];
                weight[rack] += weight[d];
                weight[above[rack]] += weight[d];
                weight[ROOT] += weight[d];
            }
        }

        int hallOf(int d) {
            return above[above[d]];
        }

        /** The set of the disks that are this node or below it. */
        int disksWithin(int n) {
            int found = 0;
            for (int d = FIRST_DISK; d < endOfDisks(); d++) {
                if (n == ROOT || n == d || n == above[d] || n == hallOf(d)) {
                    found |= bitOf(d);
                }
            }
            return found;
        }

        /** The number at which the nodes one level lower begin. */
        private int firstBelow(int n) {
            return n == ROOT ? FIRST_HALL : n < FIRST_RACK ? FIRST_RACK : FIRST_DISK;
        }

        /** The number behind the last node one level lower; none is below a disk. */
        private int endBelow(int n) {
            if (n == ROOT) {
                return FIRST_HALL + halls;
            }
            if (n < FIRST_RACK) {
                return FIRST_RACK + racks;
            }
            return n < FIRST_DISK ? endOfDisks() : FIRST_DISK;
        }

        int countBelow(int n) {
            int found = 0;
            int end = endBelow(n);
            for (int m = firstBelow(n); m < end; m++) {
                if (above[m] == n) {
                    found++;
                }
            }
            return found;
        }

        /** Fractions are compared crosswise: 65536 * 480 is far below the greatest int. */
        int choiceAt(Straws straws, int g, int t, int n) {
            int best = NONE;
            int bestLength = 0;
            int bestWeight = 0;
            int end = endBelow(n);
            for (int m = firstBelow(n); m < end; m++) {
                if (above[m] != n || weight[m] == 0) {
                    continue;
                }
                int length = straws.lengthOf(g, m, t);
                if (best == NONE || length * bestWeight < bestLength * weight[m]) {
                    best = m;
                    bestLength = length;
                    bestWeight = weight[m];
                }
            }
            return best;
        }

        int diskOfTry(Straws straws, int g, int t) {
            int n = ROOT;
            for (int step = 0; step < MOST_LEVEL && n != NONE; step++) {
                n = choiceAt(straws, g, t, n);
            }
            return n;
        }
    }

    /** The overrides of a map. */
    private static final class Diversions {
        int number;
        final int[] ofGroup = new int[MOST_OVERRIDES];
        final int[] from = new int[MOST_OVERRIDES];
        final int[] to = new int[MOST_OVERRIDES];
        /** 1 for those that had an effect when their groups were placed, 0 for the others. */
        final int[] works = new int[MOST_OVERRIDES];

        void copyFrom(Diversions other) {
            number = other.number;
            System.arraycopy(other.ofGroup, 0, ofGroup, 0, MOST_OVERRIDES);
            System.arraycopy(other.from, 0, from, 0, MOST_OVERRIDES);
            System.arraycopy(other.to, 0, to, 0, MOST_OVERRIDES);
            System.arraycopy(other.works, 0, works, 0, MOST_OVERRIDES);
        }

        boolean has(int g, int source, int target) {
            for (int i = 0; i < number; i++) {
                if (ofGroup[i] == g && from[i] == source && to[i] == target) {
                    return true;
                }
            }
            return false;
        }

        void add(int g, int source, int target) {
            if (number >= MOST_OVERRIDES) {
                return;
            }
            ofGroup[number] = g;
            from[number] = source;
            to[number] = target;
            number++;
        }

        void removeAt(int i) {
            if (number == 0) {
                return;
            }
            number--;
            for (int k = i; k < number; k++) {
                ofGroup[k] = ofGroup[k + 1];
                from[k] = from[k + 1];
                to[k] = to[k + 1];
            }
        }
    }

    /** A map, and the placements that follow from it. */
    private static final class Plan {
        final Tree tree = new Tree();
        final Diversions diversions = new Diversions();
        final int[] capacity = new int[NODES];
        final int[] reweight = new int[NODES];
        int fullSet;
        int copies;
        int level;
        int mode;
        int tries;
        /** Copy c of group g, and the try that it came from, at 4 * g + c; NONE where there is none. */
        final int[] diskOf = new int[GROUPS * MOST_COPIES];
        final int[] tryOf = new int[GROUPS * MOST_COPIES];
        /** For each group the set of the disks of its placement. */
        final int[] placed = new int[GROUPS];

        static boolean isRule(int n, int l, int m) {
            return n >= 1 && n <= MOST_COPIES && l >= 1 && l <= MOST_LEVEL && (m == 0 || m == FIXED);
        }

        void clear() {
            tree.clear();
            diversions.number = 0;
            fullSet = 0;
            setRule(2, 2, 0);
            tries = 20;
        }

        void copyFrom(Plan other) {
            tree.copyFrom(other.tree);
            diversions.copyFrom(other.diversions);
            System.arraycopy(other.capacity, 0, capacity, 0, NODES);
            System.arraycopy(other.reweight, 0, reweight, 0, NODES);
            fullSet = other.fullSet;
            setRule(other.copies, other.level, other.mode);
            tries = other.tries;
            System.arraycopy(other.diskOf, 0, diskOf, 0, GROUPS * MOST_COPIES);
            System.arraycopy(other.tryOf, 0, tryOf, 0, GROUPS * MOST_COPIES);
            System.arraycopy(other.placed, 0, placed, 0, GROUPS);
        }

        void setRule(int n, int l, int m) {
            copies = n;
            level = l;
            mode = m;
        }

        boolean addDisk(int rack, int w, int tenth) {
            if (!tree.addDisk(rack, w)) {
                return false;
            }
            int d = tree.endOfDisks() - 1;
            capacity[d] = 10 * tenth;
            reweight[d] = MOST_REWEIGHT;
            return true;
        }

        boolean isFull(int d) {
            return (fullSet & bitOf(d)) != 0;
        }

        int copyOf(int g, int c) {
            return diskOf[MOST_COPIES * g + c];
        }

        void settleAll(Straws straws) {
            tree.sumWeights();
            for (int g = 0; g < GROUPS; g++) {
                settleGroup(straws, g);
            }
        }

        void settleGroup(Straws straws, int g) {
            int base = MOST_COPIES * g;
            for (int c = 0; c < MOST_COPIES; c++) {
                diskOf[base + c] = NONE;
                tryOf[base + c] = NONE;
            }
            int found = 0;
            for (int t = 0; t < tries && found < copies; t++) {
                int at = base + (mode == FIXED ? t % copies : found);
                int d = diskOf[at] == NONE ? tree.diskOfTry(straws, g, t) : NONE;
                if (d != NONE && isAcceptable(g, d) && isApart(base, d, NONE)) {
                    diskOf[at] = d;
                    tryOf[at] = t;
                    found++;
                }
            }
            applyDiversions(g);
            placed[g] = 0;
            for (int c = 0; c < MOST_COPIES; c++) {
                placed[g] |= diskOf[base + c] == NONE ? 0 : bitOf(diskOf[base + c]);
            }
        }

        private boolean isAcceptable(int g, int d) {
            return !isFull(d) && Straws.drawOf(g, d, LAST_DRAW) % 16 < reweight[d];
        }

        /** Whether a disk is apart from the copies that begin at base, leaving one disk out. */
        private boolean isApart(int base, int d, int leftOut) {
            for (int c = 0; c < MOST_COPIES; c++) {
                int other = diskOf[base + c];
                if (other != NONE && other != leftOut && partOf(other) == partOf(d)) {
                    return false;
                }
            }
            return true;
        }

        /** The hall, the rack or the disk that no other copy may share. */
        private int partOf(int d) {
            int rack = tree.above[d];
            return level == 1 ? tree.above[rack] : level == 2 ? rack : d;
        }

        private void applyDiversions(int g) {
            for (int i = 0; i < diversions.number; i++) {
                if (diversions.ofGroup[i] == g) {
                    boolean works = replaceCopy(MOST_COPIES * g, diversions.from[i], diversions.to[i]);
                    diversions.works[i] = works ? 1 : 0;
                }
            }
        }

        private boolean replaceCopy(int base, int from, int to) {
            if (isFull(to) || reweight[to] == 0 || !isApart(base, to, from)) {
                return false;
            }
            for (int c = 0; c < MOST_COPIES; c++) {
                if (diskOf[base + c] == from) {
                    diskOf[base + c] = to;
                    return true;
                }
            }
            return false;
        }

        boolean takesPart(int d) {
            return tree.weight[d] > 0 && reweight[d] > 0 && !isFull(d);
        }

        int countPairs(int d) {
            int pairs = 0;
            for (int g = 0; g < GROUPS; g++) {
                if ((placed[g] & bitOf(d)) != 0) {
                    pairs++;
                }
            }
            return pairs;
        }

        int spreadOfPairs() {
            int most = 0;
            int fewest = GROUPS;
            for (int d = FIRST_DISK; d < tree.endOfDisks(); d++) {
                if (takesPart(d)) {
                    int pairs = countPairs(d);
                    most = Math.max(most, pairs);
                    fewest = Math.min(fewest, pairs);
                }
            }
            // Without a disk that takes part, the fewest stay above the most.
            return Math.max(0, most - fewest);
        }

        boolean hasSameCopies(Plan other, int g) {
            for (int c = 0; c < MOST_COPIES; c++) {
                if (copyOf(g, c) != other.copyOf(g, c)) {
                    return false;
                }
            }
            return true;
        }
    }

    /** The text, and how a map is read from it. */
    private static final class Text {
        int length;
        private final char[] letters = new char[TEXT_LENGTH];
        /** Where the next character is read. */
        private int at;
        private final int[] numbers = new int[3];

        void append(char letter) {
            if (length < TEXT_LENGTH) {
                letters[length] = letter;
                length++;
            }
        }

        /** Reads the text into a map, up to its fault; returns the fault, NONE if there is none. */
        int readInto(Plan plan) {
            plan.clear();
            at = 0;
            for (int items = 0; items < TEXT_LENGTH && at < length; items++) {
                int start = at;
                if (!readItem(plan)) {
                    return start;
                }
            }
            return NONE;
        }

        private boolean readItem(Plan plan) {
            char kind = letters[at];
            at++;
            return readNumbers(numbersOf(kind)) && accept(';') && apply(kind, plan);
        }

        /** How many numbers an item has; an unknown letter is refused later. */
        private static int numbersOf(char kind) {
            return kind == 'd' ? 2 : kind == 'c' ? 3 : kind == 't' ? 1 : 0;
        }

        private boolean accept(char letter) {
            if (at >= length || letters[at] != letter) {
                return false;
            }
            at++;
            return true;
        }

        private boolean readNumbers(int many) {
            for (int i = 0; i < many; i++) {
                if (i > 0 && !accept(',')) {
                    return false;
                }
                if (!isDigitNext()) {
                    return false;
                }
                numbers[i] = readDigit();
                if (isDigitNext()) {
                    numbers[i] = 10 * numbers[i] + readDigit();
                }
            }
            return true;
        }

        private boolean isDigitNext() {
            return at < length && letters[at] >= '0' && letters[at] <= '9';
        }

        private int readDigit() {
            int digit = letters[at] - '0';
            at++;
            return digit;
        }

        private boolean apply(char kind, Plan plan) {
            switch (kind) {
                case 'h':
                    return plan.tree.addHall();
                case 'r':
                    return plan.tree.addRack(FIRST_HALL + plan.tree.halls - 1);
                case 'd':
                    return isWeight(numbers[0])
                        && plan.addDisk(FIRST_RACK + plan.tree.racks - 1, numbers[0], numbers[1]);
                case 'c':
                    if (!Plan.isRule(numbers[0], numbers[1], numbers[2])) {
                        return false;
                    }
                    plan.setRule(numbers[0], numbers[1], numbers[2]);
                    return true;
                case 't':
                    plan.tries = numbers[0];
                    return numbers[0] >= 1 && numbers[0] <= MOST_TRIES;
                default:
                    return false;
            }
        }
    }

    /** Which disks are up, how great the groups are and which disks hold them. */
    private static final class Data {
        int upSet;
        final int[] size = new int[GROUPS];
        final int[] holders = new int[GROUPS];

        void begin(Plan plan) {
            upSet = plan.tree.disksWithin(ROOT);
            for (int g = 0; g < GROUPS; g++) {
                size[g] = 0;
                holders[g] = plan.placed[g];
            }
        }

        void copyFrom(Data other) {
            upSet = other.upSet;
            System.arraycopy(other.size, 0, size, 0, GROUPS);
            System.arraycopy(other.holders, 0, holders, 0, GROUPS);
        }

        boolean isUp(int d) {
            return (upSet & bitOf(d)) != 0;
        }

        void setUp(int d, boolean is) {
            upSet = is ? upSet | bitOf(d) : upSet & ~bitOf(d);
        }

        /** Returns how many groups the disk held. */
        int letFail(int d) {
            int lost = 0;
            setUp(d, false);
            for (int g = 0; g < GROUPS; g++) {
                if ((holders[g] & bitOf(d)) != 0) {
                    lost++;
                    holders[g] &= ~bitOf(d);
                }
            }
            return lost;
        }

        /** The sum of the sizes of the groups in whose set the disk is. */
        int sizeOn(int d, int[] sets) {
            int sum = 0;
            for (int g = 0; g < GROUPS; g++) {
                if ((sets[g] & bitOf(d)) != 0) {
                    sum += size[g];
                }
            }
            return sum;
        }

        private boolean isWaiting(int g) {
            return (holders[g] & upSet) == 0;
        }

        private boolean isIncomplete(Plan plan, int g) {
            return !isWaiting(g) && (plan.placed[g] & upSet & ~holders[g]) != 0;
        }

        int countLost() {
            int found = 0;
            for (int g = 0; g < GROUPS; g++) {
                found += holders[g] == 0 ? 1 : 0;
            }
            return found;
        }

        int countWaiting() {
            int found = 0;
            for (int g = 0; g < GROUPS; g++) {
                found += isWaiting(g) ? 1 : 0;
            }
            return found;
        }

        int countIncomplete(Plan plan) {
            int found = 0;
            for (int g = 0; g < GROUPS; g++) {
                found += isIncomplete(plan, g) ? 1 : 0;
            }
            return found;
        }

        int serverOf(Plan plan, int g) {
            int serving = holders[g] & upSet;
            int first = firstCopyIn(plan, g, serving);
            if (first != NONE) {
                return first;
            }
            for (int d = FIRST_DISK; d < NODES; d++) {
                if ((serving & bitOf(d)) != 0) {
                    return d;
                }
            }
            return NONE;
        }

        /** The first disk of the placement of a group that is in a set. */
        private static int firstCopyIn(Plan plan, int g, int set) {
            for (int c = 0; c < MOST_COPIES; c++) {
                int d = plan.copyOf(g, c);
                if (d != NONE && (set & bitOf(d)) != 0) {
                    return d;
                }
            }
            return NONE;
        }

        /** Returns how many copyings were made. */
        int makeTick(Plan plan, int most) {
            int made = 0;
            boolean more = true;
            for (int i = 0; i < most && more; i++) {
                more = copyOnce(plan);
                made += more ? 1 : 0;
            }
            dropSpare(plan);
            return made;
        }

        private boolean copyOnce(Plan plan) {
            int g = mostUrgent(plan);
            if (g == NONE) {
                return false;
            }
            int d = firstCopyIn(plan, g, upSet & ~holders[g]);
            if (d == NONE) {
                return false;
            }
            holders[g] |= bitOf(d);
            return true;
        }

        private int mostUrgent(Plan plan) {
            int best = NONE;
            int bestHeld = 0;
            int bestSize = 0;
            for (int g = 0; g < GROUPS; g++) {
                if (!isIncomplete(plan, g)) {
                    continue;
                }
                int heldBy = Integer.bitCount(holders[g] & upSet);
                if (best == NONE || heldBy < bestHeld || (heldBy == bestHeld && size[g] > bestSize)) {
                    best = g;
                    bestHeld = heldBy;
                    bestSize = size[g];
                }
            }
            return best;
        }

        /** Disks outside the placement let a group go once all disks of its placement hold it. */
        private void dropSpare(Plan plan) {
            for (int g = 0; g < GROUPS; g++) {
                int due = plan.placed[g];
                if ((due & ~holders[g]) == 0 && (due & upSet) != 0) {
                    holders[g] = due;
                }
            }
        }

        /** What one number of a storm does to a disk. */
        void strike(Plan plan, int v) {
            int disks = plan.tree.disks;
            if (disks < 1) {
                return;
            }
            int d = FIRST_DISK + v % disks;
            int deed = v / 16 % 4;
            if (deed == 0) {
                letFail(d);
            } else if (deed == 1) {
                setUp(d, true);
            }
        }
    }

    /** What has been seen of the placements. */
    private static final class Observations {
        int number;
        private final int[] ofGroup = new int[MOST_OBSERVATIONS];
        private final int[] ofDisk = new int[MOST_OBSERVATIONS];
        private final boolean[] has = new boolean[MOST_OBSERVATIONS];

        void add(int g, int d, boolean is) {
            if (number >= MOST_OBSERVATIONS) {
                return;
            }
            ofGroup[number] = g;
            ofDisk[number] = d;
            has[number] = is;
            number++;
        }

        /** Places just the groups that were seen, and compares. */
        boolean areTrueIn(Plan plan, Straws straws) {
            for (int i = 0; i < number; i++) {
                plan.settleGroup(straws, ofGroup[i]);
                boolean is = (plan.placed[ofGroup[i]] & bitOf(ofDisk[i])) != 0;
                if (is != has[i]) {
                    return false;
                }
            }
            return true;
        }
    }
}
