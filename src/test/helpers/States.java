import java.util.ArrayList;
import java.util.List;

/** States of a StrawMap, how to see that two of them are alike, and the document's formulas in another form. */
class States extends Sentences {
    static final int BAD = StrawMap.BAD, NO = StrawMap.NO, FULL = StrawMap.FULL, NONE = StrawMap.NONE;
    static final int LOW = Integer.MIN_VALUE, HIGH = Integer.MAX_VALUE;
    static final String START = "h;r;d4,9;d2,9;r;d3,9;d3,9;h;r;d5,9;d1,9;r;d6,9;h;r;d2,9;d8,9;c3,2,0;t20;";
    /** 3 halls, 6 racks and 12 disks; disk 10 + i has the weight and the tenth of the capacity i + 1. */
    static final String FULL_TREE = "h;r;d1,1;d2,2;r;d3,3;d4,4;h;r;d5,5;d6,6;r;d7,7;d8,8;"
        + "h;r;d9,9;d10,10;r;d11,11;d12,12;";
    /** Each group is on all disks. */
    static final String TWO_ALIKE = "h;r;d9,9;d9,9;c2,3,0;t24;";
    static final String THREE_ALIKE = "h;r;d9,9;d9,9;d9,9;c3,3,0;t24;";
    static final String FOUR_ALIKE = "h;r;d9,9;d14,9;d9,9;d14,9;c4,3,0;t24;";
    /** What is no node, no rack and so on in the first map, as long as nothing is added. */
    static final int[] NO_NODES = {LOW, -1, 9, 19, 21, 22, HIGH};
    static final int[] NO_HALLS = {LOW, -1, 0, 4, 10, 22, HIGH};
    static final int[] NO_RACKS = {LOW, -1, 0, 1, 3, 9, 10, 18, 22, HIGH};
    static final int[] NO_DISKS = {LOW, -1, 0, 1, 3, 4, 8, 9, 19, 21, 22, HIGH};
    static final int[] NO_GROUPS = {LOW, -1, 16, HIGH};
    static final int[] NO_COPIES = {LOW, -1, 4, HIGH};
    private static final int VIEWS = 6;

    interface State {
        void set(StrawMap x);
    }

    interface Call {
        int on(StrawMap x);
    }

    interface CallWith {
        int on(StrawMap x, int value);
    }

    protected States() {
    }

    static void write(StrawMap x, String text) {
        for (int i = 0; i < text.length(); i++) {
            x.write(text.charAt(i));
        }
    }

    static StrawMap of(String text) {
        StrawMap x = new StrawMap();
        lay(x, text);
        return x;
    }

    static void lay(StrawMap x, String text) {
        x.wipe();
        write(x, text);
        holds(x.lay() > 0);
        x.wipe();
    }

    static StrawMap withText(String text) {
        StrawMap x = new StrawMap();
        write(x, text);
        return x;
    }

    static void fresh(StrawMap x) {
        is(x.count(8), 1);
    }

    /** A state in which everything has been used: a call that changes something is seen in it. */
    static void lived(StrawMap x) {
        write(x, "h;r;d3,4;t5");
        x.weigh(10, 7);
        x.reweigh(14, 9);
        x.divert(5, 17, 18);
        x.divert(0, 12, 13);
        x.move(11, 6);
        for (int g = 0; g < 16; g++) {
            x.put(keyOf(g), 3 + 5 * g % 37);
        }
        x.put(keyOf(0), 90);
        x.refill();
        x.up(11, 0);
        x.fail(16);
        x.up(16, 1);
        x.tick(1);
        x.weigh(17, 9);
        x.put(keyOf(2), 9);
        x.seen(3, 14, 1);
        x.seen(4, 10, 0);
    }

    /** The calls are refused with the code, one after another, and leave everything as it was. */
    static void refuses(int code, State state, Call... calls) {
        List<Integer> due = new ArrayList<>();
        for (int i = 0; i < calls.length; i++) {
            due.add(code);
        }
        leaves(state, due, calls);
    }

    static void refusesAll(int code, State state, int[] values, CallWith call) {
        Call[] calls = new Call[values.length];
        for (int i = 0; i < values.length; i++) {
            int value = values[i];
            calls[i] = x -> call.on(x, value);
        }
        refuses(code, state, calls);
    }

    /** The calls answer something and leave everything as it was. */
    static void changesNothing(State state, Call... calls) {
        leaves(state, null, calls);
    }

    private static void leaves(State state, List<Integer> due, Call... calls) {
        for (int view = 0; view < VIEWS; view++) {
            StrawMap x = new StrawMap();
            StrawMap twin = new StrawMap();
            state.set(x);
            state.set(twin);
            for (int i = 0; i < calls.length; i++) {
                int answer = calls[i].on(x);
                if (due != null) {
                    is(answer, due.get(i));
                }
            }
            are(view(x, view), view(twin, view));
        }
    }

    static void alike(State one, State other) {
        for (int view = 0; view < VIEWS; view++) {
            StrawMap x = new StrawMap();
            StrawMap y = new StrawMap();
            one.set(x);
            other.set(y);
            are(view(x, view), view(y, view));
        }
    }

    /** What can be seen of an object, in parts of fewer than 300 calls: an object is good for 512. */
    private static int[] view(StrawMap x, int part) {
        List<Integer> seen = new ArrayList<>();
        switch (part) {
            case 0:
                viewMap(x, seen);
                break;
            case 1:
                viewPlacements(x, seen);
                break;
            case 2:
                viewEpochs(x, seen, 0);
                break;
            case 3:
                viewEpochs(x, seen, 3);
                break;
            case 4:
                viewData(x, seen);
                break;
            default:
                viewText(x, seen);
        }
        int[] all = new int[seen.size()];
        for (int i = 0; i < all.length; i++) {
            all[i] = seen.get(i);
        }
        return all;
    }

    private static void viewMap(StrawMap x, List<Integer> seen) {
        for (int what = 0; what <= 16; what++) {
            seen.add(x.count(what));
        }
        for (int n = 0; n < 22; n++) {
            for (int what = 0; what <= 6; what++) {
                seen.add(x.node(n, what));
            }
        }
        for (int i = 0; i < 6; i++) {
            for (int what = 0; what <= 3; what++) {
                seen.add(x.override(i, what));
            }
        }
        seen.add(x.spread());
        seen.add(x.fault());
    }

    private static void viewPlacements(StrawMap x, List<Integer> seen) {
        for (int g = 0; g < 16; g++) {
            for (int c = 0; c < 4; c++) {
                seen.add(x.place(g, c));
                seen.add(x.taken(g, c));
            }
            seen.add(x.chosen(g, 0, 0));
        }
        for (int n = 0; n < 22; n++) {
            seen.add(x.groups(n));
            seen.add(x.share(n, 0));
            seen.add(x.share(n, 1));
        }
    }

    private static void viewEpochs(StrawMap x, List<Integer> seen, int before) {
        int present = x.count(8);
        seen.add(present);
        for (int epoch = present - before; epoch > present - before - 3; epoch--) {
            for (int g = 0; g < 16; g++) {
                for (int c = 0; c < 4; c++) {
                    seen.add(x.old(epoch, g, c));
                }
            }
            for (int what = 0; what <= 2; what++) {
                seen.add(x.since(epoch, what));
            }
        }
    }

    private static void viewData(StrawMap x, List<Integer> seen) {
        for (int g = 0; g < 16; g++) {
            for (int what = 0; what <= 2; what++) {
                seen.add(x.held(g, what));
            }
        }
        for (int d = 10; d < 22; d++) {
            seen.add(x.load(d, 0));
            seen.add(x.load(d, 1));
            for (int what = 0; what <= 2; what++) {
                seen.add(x.weights(d, what));
            }
            seen.add(x.least(d, 4));
        }
        for (int what = 0; what <= 2; what++) {
            seen.add(x.storm(9, 30, what));
            seen.add(x.even(what));
        }
        for (int n = 0; n < 22; n++) {
            seen.add(x.loses(n, n));
        }
    }

    /** The text is seen by reading it, and again with something behind it. */
    private static void viewText(StrawMap x, List<Integer> seen) {
        seen.add(x.fault());
        for (String more : new String[] {"", ";", "t7;"}) {
            write(x, more);
            seen.add(x.fault());
            seen.add(x.lay());
        }
        viewMap(x, seen);
    }

    // ---- the document's formulas

    static int groupOf(int k) {
        return (int) (7919L * k % 65521 % 16);
    }

    /** The lowest key of a group. */
    static int keyOf(int g) {
        int k = 0;
        while (groupOf(k) != g) {
            k++;
        }
        return k;
    }

    static int drawn(int g, int n, int t) {
        long y = (7919L * g + 613L * n + 4093L * t + 1) % 65521;
        return (int) (1 + y * y % 65521 * y % 65521);
    }

    static int wanted(int u) {
        int e = 0;
        while (1L << (e + 1) <= u) {
            e++;
        }
        long v = u;
        for (int i = e; i < 16; i++) {
            v *= 2;
        }
        int p = 0;
        for (int i = 0; i < 12; i++) {
            v = v * v / 65536;
            p *= 2;
            if (v >= 131072) {
                v /= 2;
                p += 1;
            }
        }
        return 65536 - 4096 * e - p;
    }

    static int bit(int d) {
        return 1 << (d - 10);
    }

    static int set(int... disks) {
        int all = 0;
        for (int d : disks) {
            all |= bit(d);
        }
        return all;
    }

    static boolean has(StrawMap x, int g, int d) {
        return (x.groups(d) >> g & 1) == 1;
    }

    /** The disk to which choices lead from the root; x has weight. */
    static int tried(StrawMap x, int g, int t) {
        return x.chosen(g, t, x.chosen(g, t, x.chosen(g, t, 0)));
    }
}
