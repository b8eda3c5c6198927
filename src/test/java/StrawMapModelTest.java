import java.math.BigInteger;
import java.util.ArrayList;
import java.util.Arrays;
import java.util.List;
import java.util.Random;
import java.util.TreeMap;
import java.util.TreeSet;

/**
 * Compares StrawMap, call by call, with a second simulator that was written from the document's words in another
 * way: nodes are objects, sets are sets, fractions are exact, and everything is computed anew in each call.
 */
public final class StrawMapModelTest {
    private static final int BAD = -1, NO = -2, FULL = -3, NONE = -4;
    private static final int RUNS = 160;
    private static final int CALLS = 512;
    private static int wrong = 0;
    private static long compared = 0;

    public static void main(String[] args) {
        for (int run = 0; run < RUNS && wrong < 20; run++) {
            new Run(run).go();
        }
        System.out.println(compared + " answers compared, " + wrong + " wrong");
        if (wrong != 0) {
            System.exit(1);
        }
    }

    // ---- the second simulator

    static final class Disk {
        int number, rack, weight, capacity, reweight = 16;
        boolean full;

        Disk copy() {
            Disk d = new Disk();
            d.number = number;
            d.rack = rack;
            d.weight = weight;
            d.capacity = capacity;
            d.reweight = reweight;
            d.full = full;
            return d;
        }
    }

    static final class World {
        int halls;
        TreeMap<Integer, Integer> rackHall = new TreeMap<>();
        TreeMap<Integer, Disk> disks = new TreeMap<>();
        int copies = 2, level = 2, mode = 0, tries = 20;
        List<int[]> overrides = new ArrayList<>();

        World copy() {
            World w = new World();
            w.halls = halls;
            w.rackHall.putAll(rackHall);
            for (Disk d : disks.values()) {
                w.disks.put(d.number, d.copy());
            }
            w.copies = copies;
            w.level = level;
            w.mode = mode;
            w.tries = tries;
            for (int[] o : overrides) {
                w.overrides.add(o.clone());
            }
            return w;
        }

        boolean isHall(int n) {
            return 1 <= n && n <= halls;
        }

        boolean isNode(int n) {
            return n == 0 || isHall(n) || rackHall.containsKey(n) || disks.containsKey(n);
        }

        int parent(int n) {
            if (n == 0) {
                return NONE;
            }
            return isHall(n) ? 0 : rackHall.containsKey(n) ? rackHall.get(n) : disks.get(n).rack;
        }

        List<Integer> children(int n) {
            List<Integer> all = new ArrayList<>();
            for (int m = 1; m < 22; m++) {
                if (isNode(m) && parent(m) == n) {
                    all.add(m);
                }
            }
            return all;
        }

        boolean within(int d, int n) {
            for (int m = d; m != NONE; m = parent(m)) {
                if (m == n) {
                    return true;
                }
            }
            return false;
        }

        int weight(int n) {
            int sum = 0;
            for (Disk d : disks.values()) {
                sum += within(d.number, n) ? d.weight : 0;
            }
            return sum;
        }

        int choice(int g, int t, int n) {
            int best = NONE;
            for (int m : children(n)) {
                if (weight(m) > 0 && (best == NONE || shorter(g, t, m, best))) {
                    best = m;
                }
            }
            return best;
        }

        private boolean shorter(int g, int t, int a, int b) {
            BigInteger left = BigInteger.valueOf(want(draw(g, a, t))).multiply(BigInteger.valueOf(weight(b)));
            BigInteger right = BigInteger.valueOf(want(draw(g, b, t))).multiply(BigInteger.valueOf(weight(a)));
            return left.compareTo(right) < 0;
        }

        int tryDisk(int g, int t) {
            return weight(0) == 0 ? NONE : choice(g, t, choice(g, t, choice(g, t, 0)));
        }

        boolean acceptable(int g, int d) {
            Disk disk = disks.get(d);
            return !disk.full && draw(g, d, 99) % 16 < disk.reweight;
        }

        boolean apart(int a, int b) {
            if (level == 1) {
                return parent(parent(a)) != parent(parent(b));
            }
            return level == 2 ? parent(a) != parent(b) : a != b;
        }

        /** copies, then tries, then for each override of the map whether it had an effect */
        int[][] placement(int g) {
            int[] copy = {NONE, NONE, NONE, NONE};
            int[] by = {NONE, NONE, NONE, NONE};
            List<Integer> taken = new ArrayList<>();
            for (int t = 0; t < tries; t++) {
                int c = mode == 0 ? taken.size() : t % copies;
                if (taken.size() == copies || copy[c] != NONE) {
                    continue;
                }
                int d = tryDisk(g, t);
                if (d == NONE || !acceptable(g, d)) {
                    continue;
                }
                boolean free = true;
                for (int other : taken) {
                    free &= apart(d, other);
                }
                if (free) {
                    copy[c] = d;
                    by[c] = t;
                    taken.add(d);
                }
            }
            int[] effect = new int[overrides.size()];
            for (int i = 0; i < overrides.size(); i++) {
                effect[i] = overrides.get(i)[0] == g && apply(copy, overrides.get(i)) ? 1 : 0;
            }
            return new int[][] {copy, by, effect};
        }

        private boolean apply(int[] copy, int[] o) {
            int at = -1;
            boolean free = true;
            for (int c = 0; c < 4; c++) {
                if (copy[c] == o[1]) {
                    at = c;
                } else if (copy[c] != NONE) {
                    free &= apart(copy[c], o[2]);
                }
            }
            Disk to = disks.get(o[2]);
            if (at < 0 || !free || to.full || to.reweight == 0) {
                return false;
            }
            copy[at] = o[2];
            return true;
        }

        TreeSet<Integer> placed(int g) {
            TreeSet<Integer> all = new TreeSet<>();
            for (int d : placement(g)[0]) {
                if (d != NONE) {
                    all.add(d);
                }
            }
            return all;
        }

        boolean takesPart(Disk d) {
            return d.weight > 0 && d.reweight > 0 && !d.full;
        }

        int spread() {
            List<TreeSet<Integer>> all = new ArrayList<>();
            for (int g = 0; g < 16; g++) {
                all.add(placed(g));
            }
            TreeSet<Integer> counts = new TreeSet<>();
            for (Disk d : disks.values()) {
                if (takesPart(d)) {
                    int pairs = 0;
                    for (TreeSet<Integer> p : all) {
                        pairs += p.contains(d.number) ? 1 : 0;
                    }
                    counts.add(pairs);
                }
            }
            return counts.isEmpty() ? 0 : counts.last() - counts.first();
        }
    }

    static int draw(int g, int n, int t) {
        BigInteger y = BigInteger.valueOf(7919L * g + 613L * n + 4093L * t + 1);
        return 1 + y.pow(3).mod(BigInteger.valueOf(65521)).intValue();
    }

    private static final int[] WANTS = new int[65522];

    static int want(int u) {
        if (WANTS[u] != 0) {
            return WANTS[u];
        }
        int e = BigInteger.valueOf(u).bitLength() - 1;
        BigInteger v = BigInteger.valueOf(u).shiftLeft(16 - e);
        int p = 0;
        for (int i = 0; i < 12; i++) {
            v = v.multiply(v).divide(BigInteger.valueOf(65536));
            p *= 2;
            if (v.compareTo(BigInteger.valueOf(131072)) >= 0) {
                v = v.divide(BigInteger.TWO);
                p++;
            }
        }
        WANTS[u] = 65536 - 4096 * e - p;
        return WANTS[u];
    }

    static final class State {
        TreeSet<Integer> up = new TreeSet<>();
        int[] size = new int[16];
        List<TreeSet<Integer>> held = new ArrayList<>();

        State(World w) {
            up.addAll(w.disks.keySet());
            for (int g = 0; g < 16; g++) {
                held.add(w.placed(g));
            }
        }

        State(State s) {
            up.addAll(s.up);
            size = s.size.clone();
            for (TreeSet<Integer> h : s.held) {
                held.add(new TreeSet<>(h));
            }
        }

        List<Integer> upHolders(int g) {
            List<Integer> all = new ArrayList<>(held.get(g));
            all.retainAll(up);
            return all;
        }

        int firstMissing(World w, int g) {
            for (int d : w.placement(g)[0]) {
                if (d != NONE && up.contains(d) && !held.get(g).contains(d)) {
                    return d;
                }
            }
            return NONE;
        }

        boolean incomplete(World w, int g) {
            return !upHolders(g).isEmpty() && firstMissing(w, g) != NONE;
        }

        int tick(World w, int m) {
            int made = 0;
            while (made < m) {
                List<Integer> open = new ArrayList<>();
                for (int g = 0; g < 16; g++) {
                    if (incomplete(w, g)) {
                        open.add(g);
                    }
                }
                if (open.isEmpty()) {
                    break;
                }
                // The sort is stable: of equal ones the lowest stays first.
                open.sort((a, b) -> upHolders(a).size() != upHolders(b).size()
                    ? upHolders(a).size() - upHolders(b).size() : size[b] - size[a]);
                held.get(open.get(0)).add(firstMissing(w, open.get(0)));
                made++;
            }
            for (int g = 0; g < 16; g++) {
                TreeSet<Integer> due = w.placed(g);
                TreeSet<Integer> dueUp = new TreeSet<>(due);
                dueUp.retainAll(up);
                if (held.get(g).containsAll(due) && !dueUp.isEmpty()) {
                    held.set(g, due);
                }
            }
            return made;
        }

        int fail(int d) {
            int had = 0;
            up.remove(d);
            for (TreeSet<Integer> h : held) {
                had += h.remove(d) ? 1 : 0;
            }
            return had;
        }

        int load(int d) {
            int sum = 0;
            for (int g = 0; g < 16; g++) {
                sum += held.get(g).contains(d) ? size[g] : 0;
            }
            return sum;
        }
    }

    static final class Model {
        StringBuilder text = new StringBuilder();
        TreeMap<Integer, World> known = new TreeMap<>();
        int epoch;
        World now;
        State state;
        List<int[]> seen = new ArrayList<>();

        Model() {
            text.append("h;r;d4,9;d2,9;r;d3,9;d3,9;h;r;d5,9;d1,9;r;d6,9;h;r;d2,9;d8,9;c3,2,0;t20;");
            lay();
            text.setLength(0);
        }

        private int fault;

        private World parse() {
            World w = new World();
            fault = NONE;
            int at = 0;
            while (at < text.length()) {
                int end = text.indexOf(";", at);
                if (end < 0 || !item(w, text.substring(at, end))) {
                    fault = at;
                    return w;
                }
                at = end + 1;
            }
            return w;
        }

        private boolean item(World w, String s) {
            if (s.equals("h")) {
                return ++w.halls <= 3;
            }
            if (s.equals("r")) {
                w.rackHall.put(4 + w.rackHall.size(), w.halls);
                return w.halls > 0 && w.rackHall.size() <= 6;
            }
            if (!s.matches("d\\d\\d?,\\d\\d?|c\\d\\d?,\\d\\d?,\\d\\d?|t\\d\\d?")) {
                return false;
            }
            String[] parts = s.substring(1).split(",");
            int[] v = Arrays.stream(parts).mapToInt(Integer::parseInt).toArray();
            if (s.charAt(0) == 'd') {
                if (w.rackHall.isEmpty() || w.disks.size() == 12 || v[0] > 40) {
                    return false;
                }
                addDisk(w, w.rackHall.lastKey(), v[0], v[1]);
                return true;
            }
            if (s.charAt(0) == 't') {
                w.tries = v[0];
                return v[0] >= 1 && v[0] <= 24;
            }
            w.copies = v[0];
            w.level = v[1];
            w.mode = v[2];
            return v[0] >= 1 && v[0] <= 4 && v[1] >= 1 && v[1] <= 3 && v[2] <= 1;
        }

        private int addDisk(World w, int rack, int weight, int tenth) {
            Disk d = new Disk();
            d.number = 10 + w.disks.size();
            d.rack = rack;
            d.weight = weight;
            d.capacity = 10 * tenth;
            w.disks.put(d.number, d);
            return d.number;
        }

        private int lay() {
            World w = parse();
            if (fault != NONE || w.disks.isEmpty()) {
                return NO;
            }
            known.clear();
            epoch = 0;
            change(w);
            state = new State(w);
            seen.clear();
            return w.disks.size();
        }

        private void change(World w) {
            epoch++;
            known.put(epoch, w);
            known.remove(epoch - 5);
            now = w;
        }

        private boolean in(int x, int low, int high) {
            return low <= x && x <= high;
        }

        private boolean disk(int d) {
            return now.disks.containsKey(d);
        }

        private int mask(TreeSet<Integer> disks) {
            int m = 0;
            for (int d : disks) {
                m |= 1 << (d - 10);
            }
            return m;
        }

        private World with(int d, int w) {
            World other = now.copy();
            other.disks.get(d).weight = w;
            return other;
        }

        int answer(String name, int a, int b, int c) {
            World next = now.copy();
            switch (name) {
                case "write":
                    if (!in(a, 32, 126)) {
                        return BAD;
                    }
                    if (text.length() == 200) {
                        return FULL;
                    }
                    text.append((char) a);
                    return text.length();
                case "wipe": {
                    int had = text.length();
                    text.setLength(0);
                    return had;
                }
                case "fault":
                    parse();
                    return fault;
                case "lay":
                    return lay();
                case "node":
                    return node(a, b);
                case "override":
                    if (!in(a, 0, now.overrides.size() - 1) || !in(b, 0, 3)) {
                        return BAD;
                    }
                    return b < 3 ? now.overrides.get(a)[b] : now.placement(now.overrides.get(a)[0])[2][a];
                case "weigh": {
                    if (!disk(a) || !in(b, 0, 40)) {
                        return BAD;
                    }
                    int before = now.disks.get(a).weight;
                    if (before == b) {
                        return NO;
                    }
                    next.disks.get(a).weight = b;
                    change(next);
                    return before;
                }
                case "reweigh": {
                    if (!disk(a) || !in(b, 0, 16)) {
                        return BAD;
                    }
                    int before = now.disks.get(a).reweight;
                    if (before == b) {
                        return NO;
                    }
                    next.disks.get(a).reweight = b;
                    change(next);
                    return before;
                }
                case "refill": {
                    int changed = 0;
                    for (Disk d : next.disks.values()) {
                        boolean is = state.load(d.number) >= d.capacity;
                        changed += is != d.full ? 1 : 0;
                        d.full = is;
                    }
                    if (changed == 0) {
                        return NO;
                    }
                    change(next);
                    return changed;
                }
                case "divert":
                    if (!in(a, 0, 15) || !disk(b) || !disk(c) || b == c) {
                        return BAD;
                    }
                    for (int[] o : now.overrides) {
                        if (o[0] == a && o[1] == b && o[2] == c) {
                            return NO;
                        }
                    }
                    if (now.overrides.size() == 6) {
                        return FULL;
                    }
                    next.overrides.add(new int[] {a, b, c});
                    change(next);
                    return now.overrides.size();
                case "lift":
                    if (!in(a, 0, now.overrides.size() - 1)) {
                        return BAD;
                    }
                    next.overrides.remove(a);
                    change(next);
                    return now.overrides.size();
                case "rule": {
                    if (!in(a, 1, 4) || !in(b, 1, 3) || !in(c, 0, 1)) {
                        return BAD;
                    }
                    if (now.copies == a && now.level == b && now.mode == c) {
                        return NO;
                    }
                    int before = 100 * now.copies + 10 * now.level + now.mode;
                    next.copies = a;
                    next.level = b;
                    next.mode = c;
                    change(next);
                    return before;
                }
                case "rack":
                    if (!now.isHall(a)) {
                        return BAD;
                    }
                    if (now.rackHall.size() == 6) {
                        return FULL;
                    }
                    next.rackHall.put(4 + now.rackHall.size(), a);
                    change(next);
                    return now.rackHall.lastKey();
                case "disk": {
                    if (!now.rackHall.containsKey(a) || !in(b, 0, 40) || !in(c, 0, 99)) {
                        return BAD;
                    }
                    if (now.disks.size() == 12) {
                        return FULL;
                    }
                    int d = addDisk(next, a, b, c);
                    change(next);
                    state.up.add(d);
                    return d;
                }
                case "move": {
                    boolean rack = now.rackHall.containsKey(a) && now.isHall(b);
                    if (!rack && !(disk(a) && now.rackHall.containsKey(b))) {
                        return BAD;
                    }
                    int before = now.parent(a);
                    if (before == b) {
                        return NO;
                    }
                    if (rack) {
                        next.rackHall.put(a, b);
                    } else {
                        next.disks.get(a).rack = b;
                    }
                    change(next);
                    return before;
                }
                case "back": {
                    World then = known.get(a);
                    if (then == null) {
                        return BAD;
                    }
                    if (a == epoch || then.rackHall.size() < now.rackHall.size()
                        || then.disks.size() < now.disks.size()) {
                        return NO;
                    }
                    change(then.copy());
                    return epoch;
                }
                default:
                    return question(name, a, b, c);
            }
        }

        private int node(int n, int what) {
            if (!now.isNode(n) || !in(what, 0, 6) || what > 2 && !disk(n)) {
                return BAD;
            }
            switch (what) {
                case 0: return now.weight(n);
                case 1: return now.parent(n);
                case 2: return now.children(n).size();
                case 3: return now.disks.get(n).reweight;
                case 4: return now.disks.get(n).full ? 1 : 0;
                case 5: return now.disks.get(n).capacity;
                default: return state.up.contains(n) ? 1 : 0;
            }
        }

        private int question(String name, int a, int b, int c) {
            switch (name) {
                case "group":
                    return in(a, 0, 9999) ? (int) (7919L * a % 65521 % 16) : BAD;
                case "draw":
                    return in(a, 0, 15) && now.isNode(b) && in(c, 0, 99) ? StrawMapModelTest.draw(a, b, c) : BAD;
                case "want":
                    return in(a, 1, 65521) ? StrawMapModelTest.want(a) : BAD;
                case "chosen":
                    return in(a, 0, 15) && in(b, 0, 99) && now.isNode(c) && !disk(c) ? now.choice(a, b, c) : BAD;
                case "place":
                    return in(a, 0, 15) && in(b, 0, 3) ? now.placement(a)[0][b] : BAD;
                case "taken":
                    return in(a, 0, 15) && in(b, 0, 3) ? now.placement(a)[1][b] : BAD;
                case "groups": {
                    int found = 0;
                    for (int g = 0; g < 16 && now.isNode(a); g++) {
                        for (int d : now.placed(g)) {
                            found |= now.within(d, a) ? 1 << g : 0;
                        }
                    }
                    return now.isNode(a) ? found : BAD;
                }
                case "spread":
                    return now.spread();
                case "share": {
                    if (!now.isNode(a) || !in(b, 0, 1)) {
                        return BAD;
                    }
                    if (now.weight(0) == 0) {
                        return NONE;
                    }
                    BigInteger own = BigInteger.valueOf(now.weight(a));
                    BigInteger whole = BigInteger.valueOf(now.weight(0));
                    return (b == 0 ? own : whole).divide(own.gcd(whole)).intValue();
                }
                case "old":
                    if (!in(b, 0, 15) || !in(c, 0, 3)) {
                        return BAD;
                    }
                    return known.containsKey(a) ? known.get(a).placement(b)[0][c] : NONE;
                case "since":
                    return since(a, b);
                case "would": {
                    if (!disk(a) || !in(b, 0, 40) || !in(c, 0, 2)) {
                        return BAD;
                    }
                    World other = with(a, b);
                    int pairs = 0;
                    for (int g = 0; g < 16; g++) {
                        TreeSet<Integer> added = other.placed(g);
                        added.removeAll(now.placed(g));
                        for (int d : added) {
                            pairs += c == 0 || c == 1 && d == a
                                || c == 2 && now.parent(now.parent(d)) == now.parent(now.parent(a)) ? 1 : 0;
                        }
                    }
                    return pairs;
                }
                case "least":
                    if (!disk(a) || !in(b, 1, 16)) {
                        return BAD;
                    }
                    for (int w = 0; w <= 40; w++) {
                        World other = with(a, w);
                        int have = 0;
                        for (int g = 0; g < 16; g++) {
                            have += other.placed(g).contains(a) ? 1 : 0;
                        }
                        if (have >= b) {
                            return w;
                        }
                    }
                    return NONE;
                case "even":
                    return even(a);
                default:
                    return dataQuestion(name, a, b, c);
            }
        }

        private int since(int then, int what) {
            if (!in(what, 0, 2)) {
                return BAD;
            }
            if (!known.containsKey(then)) {
                return NONE;
            }
            int[] result = new int[3];
            for (int g = 0; g < 16; g++) {
                for (int d : now.placed(g)) {
                    result[known.get(then).placed(g).contains(d) ? 1 : 0]++;
                }
                if (Arrays.equals(now.placement(g)[0], known.get(then).placement(g)[0])) {
                    result[2] |= 1 << g;
                }
            }
            return result[what];
        }

        private int even(int what) {
            if (!in(what, 0, 2)) {
                return BAD;
            }
            int[] best = {NONE, NONE, now.spread()};
            for (Disk d : now.disks.values()) {
                for (int w : new int[] {d.weight + 1, d.weight - 1}) {
                    if (now.takesPart(d) && in(w, 1, 40)) {
                        int spread = with(d.number, w).spread();
                        if (spread < best[2]) {
                            best = new int[] {d.number, w, spread};
                        }
                    }
                }
            }
            return best[0] == NONE ? NONE : best[what];
        }

        private int dataQuestion(String name, int a, int b, int c) {
            switch (name) {
                case "put": {
                    if (!in(a, 0, 9999) || !in(b, 1, 99)) {
                        return BAD;
                    }
                    int g = (int) (7919L * a % 65521 % 16);
                    TreeSet<Integer> serving = now.placed(g);
                    serving.retainAll(state.up);
                    serving.retainAll(state.held.get(g));
                    if (serving.isEmpty()) {
                        return NO;
                    }
                    if (state.size[g] + b > 9999) {
                        return FULL;
                    }
                    state.held.get(g).retainAll(state.up);
                    return state.size[g] += b;
                }
                case "tick":
                    return in(a, 1, 8) ? state.tick(now, a) : BAD;
                case "up":
                    if (!disk(a) || !in(b, 0, 1)) {
                        return BAD;
                    }
                    boolean changed = b == 1 ? state.up.add(a) : state.up.remove(a);
                    return changed ? state.up.size() : NO;
                case "fail":
                    return disk(a) ? state.fail(a) : BAD;
                case "held":
                    if (!in(a, 0, 15) || !in(b, 0, 2)) {
                        return BAD;
                    }
                    return b == 0 ? mask(state.held.get(a)) : b == 1 ? state.size[a] : server(a);
                case "load": {
                    if (!disk(a) || !in(b, 0, 1)) {
                        return BAD;
                    }
                    int sum = 0;
                    for (int g = 0; g < 16; g++) {
                        sum += now.placed(g).contains(a) ? state.size[g] : 0;
                    }
                    return b == 0 ? state.load(a) : sum;
                }
                case "loses": {
                    if (!now.isNode(a) || !now.isNode(b)) {
                        return BAD;
                    }
                    int found = 0;
                    for (int g = 0; g < 16; g++) {
                        boolean all = !state.held.get(g).isEmpty();
                        for (int d : state.held.get(g)) {
                            all &= now.within(d, a) || now.within(d, b);
                        }
                        found |= all ? 1 << g : 0;
                    }
                    return found;
                }
                case "storm":
                    return in(a, 0, 9999) && in(b, 1, 30) && in(c, 0, 2) ? storm(a, b, c) : BAD;
                case "seen":
                    if (!in(a, 0, 15) || !disk(b) || !in(c, 0, 1)) {
                        return BAD;
                    }
                    if (seen.size() == 6) {
                        return FULL;
                    }
                    seen.add(new int[] {a, b, c});
                    return seen.size();
                case "forget": {
                    int had = seen.size();
                    seen.clear();
                    return had;
                }
                case "weights": {
                    if (!disk(a) || !in(b, 0, 2)) {
                        return BAD;
                    }
                    TreeSet<Integer> fits = new TreeSet<>();
                    for (int w = 0; w <= 40; w++) {
                        World other = with(a, w);
                        boolean all = true;
                        for (int[] o : seen) {
                            all &= other.placed(o[0]).contains(o[1]) == (o[2] == 1);
                        }
                        if (all) {
                            fits.add(w);
                        }
                    }
                    return b == 0 ? fits.size() : fits.isEmpty() ? NONE : b == 1 ? fits.first() : fits.last();
                }
                case "count":
                    return count(a);
                default:
                    throw new IllegalStateException(name);
            }
        }

        private int server(int g) {
            for (int d : now.placement(g)[0]) {
                if (d != NONE && state.upHolders(g).contains(d)) {
                    return d;
                }
            }
            return state.upHolders(g).isEmpty() ? NONE : state.upHolders(g).get(0);
        }

        private int storm(int z, int n, int what) {
            State s = new State(state);
            int copyings = 0;
            for (int k = 0; k < n; k++) {
                BigInteger x = BigInteger.valueOf(7919L * z + 6151L * k + 1);
                int v = x.pow(2).mod(BigInteger.valueOf(65521)).intValue();
                int d = 10 + v % now.disks.size();
                if (v / 16 % 4 == 0) {
                    s.fail(d);
                } else if (v / 16 % 4 == 1) {
                    s.up.add(d);
                }
                copyings += s.tick(now, 2);
            }
            int lost = 0;
            for (TreeSet<Integer> h : s.held) {
                lost += h.isEmpty() ? 1 : 0;
            }
            return what == 0 ? lost : what == 1 ? copyings : s.up.size();
        }

        private int count(int what) {
            int full = 0;
            for (Disk d : now.disks.values()) {
                full += d.full ? 1 : 0;
            }
            int lost = 0;
            int waiting = 0;
            int incomplete = 0;
            for (int g = 0; g < 16; g++) {
                lost += state.held.get(g).isEmpty() ? 1 : 0;
                waiting += state.upHolders(g).isEmpty() ? 1 : 0;
                incomplete += state.incomplete(now, g) ? 1 : 0;
            }
            int[] all = {now.halls, now.rackHall.size(), now.disks.size(), now.copies, now.level, now.mode,
                now.tries, now.overrides.size(), epoch, known.size(), state.up.size(), full, lost, waiting,
                incomplete, seen.size(), text.length()};
            return in(what, 0, 16) ? all[what] : BAD;
        }
    }

    // ---- the runs

    private static int call(StrawMap x, String name, int a, int b, int c) {
        switch (name) {
            case "write": return x.write(a);
            case "wipe": return x.wipe();
            case "fault": return x.fault();
            case "lay": return x.lay();
            case "node": return x.node(a, b);
            case "override": return x.override(a, b);
            case "weigh": return x.weigh(a, b);
            case "reweigh": return x.reweigh(a, b);
            case "refill": return x.refill();
            case "divert": return x.divert(a, b, c);
            case "lift": return x.lift(a);
            case "rule": return x.rule(a, b, c);
            case "rack": return x.rack(a);
            case "disk": return x.disk(a, b, c);
            case "move": return x.move(a, b);
            case "back": return x.back(a);
            case "group": return x.group(a);
            case "draw": return x.draw(a, b, c);
            case "want": return x.want(a);
            case "chosen": return x.chosen(a, b, c);
            case "place": return x.place(a, b);
            case "taken": return x.taken(a, b);
            case "groups": return x.groups(a);
            case "spread": return x.spread();
            case "share": return x.share(a, b);
            case "old": return x.old(a, b, c);
            case "since": return x.since(a, b);
            case "would": return x.would(a, b, c);
            case "least": return x.least(a, b);
            case "even": return x.even(a);
            case "put": return x.put(a, b);
            case "tick": return x.tick(a);
            case "up": return x.up(a, b);
            case "fail": return x.fail(a);
            case "held": return x.held(a, b);
            case "load": return x.load(a, b);
            case "loses": return x.loses(a, b);
            case "storm": return x.storm(a, b, c);
            case "seen": return x.seen(a, b, c);
            case "forget": return x.forget();
            case "weights": return x.weights(a, b);
            case "count": return x.count(a);
            default: throw new IllegalStateException(name);
        }
    }

    /** Names with what their arguments are: a letter each, see Run.argument. */
    private static final String[] KINDS = {
        "node nw", "override iw", "weigh dW", "weigh dW", "weigh dW", "reweigh dR", "reweigh dR", "refill", "refill",
        "divert gdd", "divert gdd", "diverted", "diverted", "lift i", "rule NLm", "rule NLm", "rack h", "disk rWC",
        "move rh", "move dr", "move nn", "back e", "back e", "group k", "draw gnt", "want u", "chosen gtn",
        "place gc", "place gc", "taken gc", "taken gc", "groups n", "spread", "share nb", "old egc", "old egc",
        "since ew", "since ew", "would dWw", "put kz", "put kz", "put kz", "put kz", "tick 8", "tick 8", "up db",
        "up db", "fail d", "held gw", "held gw", "load db", "loses nn", "storm k3w", "seen gdb", "seen truly",
        "seen truly", "weights dw", "forget", "count x", "count x", "count x", "fault"};
    /** Asked less often, because the second simulator is slow. */
    private static final String[] DEAR = {"least dG", "even w"};

    static final class Run {
        final Random random;
        final int number;
        final StrawMap x = new StrawMap();
        final Model model = new Model();
        final StringBuilder log = new StringBuilder();
        int calls = 0;

        Run(int number) {
            this.number = number;
            random = new Random(number);
        }

        void go() {
            if (number % 3 != 0) {
                layText();
            }
            while (calls < CALLS && wrong < 20) {
                int dice = random.nextInt(400);
                if (dice == 0) {
                    layText();
                } else if (dice < 5) {
                    step(DEAR[random.nextInt(DEAR.length)]);
                } else if (dice < 12) {
                    lookAtAll();
                } else {
                    step(KINDS[random.nextInt(KINDS.length)]);
                }
            }
        }

        private void check(String name, int a, int b, int c) {
            if (calls >= CALLS) {
                return;
            }
            calls++;
            compared++;
            int due = model.answer(name, a, b, c);
            int got = call(x, name, a, b, c);
            String row = name + "(" + a + ", " + b + ", " + c + ") = " + got;
            log.append(row).append('\n');
            if (got != due) {
                wrong++;
                System.out.println("run " + number + ", call " + calls + ": " + row + ", due is " + due);
            }
        }

        /** The whole visible state, so that no error leaves something behind. */
        private void lookAtAll() {
            for (int what = 0; what <= 16; what++) {
                check("count", what, 0, 0);
            }
            int g = random.nextInt(16);
            for (int c = 0; c < 4; c++) {
                check("place", g, c, 0);
                check("taken", g, c, 0);
            }
            for (int what = 0; what <= 2; what++) {
                check("held", g, what, 0);
                check("since", model.epoch - 1, what, 0);
            }
            int d = 10 + random.nextInt(12);
            for (int what = 0; what <= 6; what++) {
                check("node", d, what, 0);
            }
        }

        private void step(String kind) {
            if (kind.equals("diverted")) {
                int g = random.nextInt(16);
                check("divert", g, model.now.placement(g)[0][random.nextInt(4)], argument('d'));
                check("override", model.now.overrides.size() - 1, 3, 0);
                return;
            }
            if (kind.equals("seen truly")) {
                int g = random.nextInt(16);
                int d = argument('d');
                boolean is = model.disk(d) && model.now.placed(g).contains(d);
                check("seen", g, d, is ? 1 : 0);
                check("weights", argument('d'), random.nextInt(3), 0);
                return;
            }
            String[] parts = kind.split(" ");
            int[] v = new int[3];
            for (int i = 0; parts.length > 1 && i < parts[1].length(); i++) {
                v[i] = random.nextInt(40) == 0 ? odd() : argument(parts[1].charAt(i));
            }
            check(parts[0], v[0], v[1], v[2]);
        }

        private int odd() {
            int[] all = {-1, Integer.MIN_VALUE, Integer.MAX_VALUE, 1 << 30, 16, 17, 22, 41, 100, 10000, 65522, -5};
            return all[random.nextInt(all.length)];
        }

        private int argument(char kind) {
            switch (kind) {
                case 'n': return random.nextInt(23);
                case 'h': return 1 + random.nextInt(3);
                case 'r': return 4 + random.nextInt(6);
                case 'd': return 10 + random.nextInt(model.now.disks.size() + (random.nextInt(20) == 0 ? 2 : 0));
                case 'g': return random.nextInt(16);
                case 'G': return 1 + random.nextInt(16);
                case 'c': return random.nextInt(4);
                case 'b': return random.nextInt(2);
                case 'w': return random.nextInt(random.nextInt(5) == 0 ? 8 : 3);
                case 'x': return random.nextInt(18);
                case 'W': return random.nextInt(4) == 0 ? random.nextInt(3) * 20 : random.nextInt(41);
                case 'R': return random.nextInt(3) > 0 ? 16 - random.nextInt(6) : random.nextInt(17);
                case 'C': return random.nextInt(100);
                case 'N': return 1 + random.nextInt(4);
                case 'L': return 1 + random.nextInt(3);
                case 'm': return random.nextInt(2);
                case 'i': return random.nextInt(6);
                case 'e': return model.epoch - random.nextInt(7);
                case 'k': return random.nextInt(10000);
                case 'z': return random.nextInt(3) == 0 ? 99 : 1 + random.nextInt(99);
                case 't': return random.nextInt(100);
                case 'u': return 1 + random.nextInt(65521);
                case '8': return 1 + random.nextInt(8);
                case '3': return 1 + random.nextInt(random.nextInt(3) == 0 ? 30 : 6);
                default: throw new IllegalStateException("" + kind);
            }
        }

        private void layText() {
            check("wipe", 0, 0, 0);
            String s = randomText();
            for (int i = 0; i < s.length(); i++) {
                check("write", s.charAt(i), 0, 0);
            }
            check("fault", 0, 0, 0);
            check("lay", 0, 0, 0);
        }

        /** Mostly a good text; sometimes one letter of it is spoilt, or there is too much of something. */
        private String randomText() {
            StringBuilder s = new StringBuilder();
            int halls = 1 + random.nextInt(3);
            int zeros = random.nextInt(6);
            for (int h = 0; h < halls; h++) {
                s.append("h;");
                for (int r = random.nextInt(3); r >= 0; r--) {
                    s.append("r;");
                    for (int d = random.nextInt(4); d > 0; d--) {
                        int w = random.nextInt(6) < zeros ? random.nextInt(41) : 0;
                        s.append('d').append(w).append(',').append(random.nextInt(100)).append(';');
                    }
                }
                if (random.nextInt(4) == 0) {
                    s.append("t").append(random.nextInt(3) == 0 ? "03" : "" + (1 + random.nextInt(25))).append(";");
                }
            }
            if (random.nextInt(3) > 0) {
                s.append('c').append(1 + random.nextInt(4)).append(',').append(1 + random.nextInt(3)).append(',')
                    .append(random.nextInt(2)).append(';');
            }
            if (random.nextInt(4) == 0) {
                int at = random.nextInt(s.length());
                s.setCharAt(at, ";,hrdct0159 x~".charAt(random.nextInt(14)));
            }
            return s.toString();
        }
    }
}
