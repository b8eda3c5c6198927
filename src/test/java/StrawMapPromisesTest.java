import java.math.BigInteger;

/** For each promise its ordinary answers, the edges that the document names, and wrong inputs. */
public final class StrawMapPromisesTest {
    private static final int BAD = StrawMap.BAD, NO = StrawMap.NO, FULL = StrawMap.FULL, NONE = StrawMap.NONE;
    private static final int LOW = Integer.MIN_VALUE, HIGH = Integer.MAX_VALUE;
    private static int wrong = 0;
    private static int checked = 0;

    public static void main(String[] args) {
        theText();
        theTextsFaults();
        layingMaps();
        nodes();
        overrides();
        weighing();
        reweighing();
        refilling();
        diverting();
        lifting();
        rules();
        racksAndDisks();
        moving();
        goingBack();
        straws();
        choices();
        placements();
        fixedPlacements();
        groupsAndShares();
        spreads();
        oldMaps();
        otherWeights();
        evening();
        putting();
        ticking();
        upAndDown();
        holding();
        losing();
        storms();
        observing();
        counting();
        errorsChangeNothing();
        System.out.println(checked + " answers checked, " + wrong + " wrong");
        if (wrong != 0) {
            System.exit(1);
        }
    }

    private static void is(String what, int got, int due) {
        checked++;
        if (got != due) {
            wrong++;
            System.out.println(what + " is " + got + ", due is " + due);
        }
    }

    /** The answers of several calls, in order. */
    private static void are(String what, int[] got, int... due) {
        is(what + ": number of answers", got.length, due.length);
        for (int i = 0; i < Math.min(got.length, due.length); i++) {
            is(what + " [" + i + "]", got[i], due[i]);
        }
    }

    private static int[] all(int... answers) {
        return answers;
    }

    private static void writeAll(StrawMap x, String s) {
        for (int i = 0; i < s.length(); i++) {
            x.write(s.charAt(i));
        }
    }

    private static int faultOf(String s) {
        StrawMap x = new StrawMap();
        writeAll(x, s);
        int fault = x.fault();
        if (fault != NONE) {
            is("lay of " + s, x.lay(), NO);
        }
        return fault;
    }

    private static StrawMap of(String s) {
        StrawMap x = new StrawMap();
        writeAll(x, s);
        if (x.lay() < 1) {
            wrong++;
            System.out.println("not laid: " + s);
        }
        return x;
    }

    private static void theText() {
        StrawMap x = new StrawMap();
        is("a new text", x.count(16), 0);
        is("a new text has no fault", x.fault(), NONE);
        is("a new text is not complete", x.lay(), NO);
        are("letters out of range", all(x.write(31), x.write(127), x.write(-1), x.write(0), x.write(LOW),
            x.write(HIGH), x.write(104 + 65536)), BAD, BAD, BAD, BAD, BAD, BAD, BAD);
        is("nothing was written", x.count(16), 0);
        are("letters at the edges", all(x.write(32), x.write(126)), 1, 2);
        for (int i = 3; i <= 200; i++) {
            is("write", x.write('h'), i);
        }
        are("a full text", all(x.write('h'), x.write(31), x.count(16)), FULL, BAD, 200);
        are("wipe", all(x.wipe(), x.wipe(), x.count(16), x.write(';')), 200, 0, 0, 1);
    }

    private static void theTextsFaults() {
        String[] good = {"", "h;", "h;h;h;", "h;r;", "h;r;r;r;r;r;r;", "t1;", "t24;", "t01;", "c1,1,0;", "c4,3,1;",
            "c04,03,01;", "t3;t4;c1,1,1;c2,2,0;", "h;r;d0,0;", "h;r;d40,99;", "h;r;d00,00;", "h;r;h;d1,1;",
            "h;r;d1,1;d1,1;d1,1;d1,1;d1,1;d1,1;d1,1;d1,1;d1,1;d1,1;d1,1;d1,1;"};
        for (String s : good) {
            is("fault of " + s, faultOf(s), NONE);
        }
        String[] bad = {"!h", "!;", "!H;", "! h;", "!h1;", "!h,;", "h;! r;", "!r;", "h;!;", "h;!d1,1;",
            "h;h;h;!h;", "h;r;r;r;r;r;r;!r;", "h;r;!d41,1;", "h;r;!d1;", "h;r;!d1,;", "h;r;!d,1;", "h;r;!d1,1",
            "h;r;!d1,1,1;", "h;r;!d001,1;", "h;r;!d1,100;", "h;r;!d-1,1;", "h;r;!d1 ,1;", "h;r;!d1,1,;", "!t0;",
            "!t25;", "!t;", "!t1,1;", "!t1", "!t", "!t001;", "!c0,1,0;", "!c5,1,0;", "!c1,0,0;", "!c1,4,0;",
            "!c1,1,2;", "!c1,1;", "!c1,1,0,;", "!c1,1,0,0;", "!c;", "c1,1,1;!c0,1,1;", "t4;!x;h;r;", "!x1,2;",
            "h;r;d1,1;d1,1;d1,1;d1,1;d1,1;d1,1;d1,1;d1,1;d1,1;d1,1;d1,1;d1,1;!d1,1;"};
        for (String s : bad) {
            int at = s.indexOf('!');
            is("fault of " + s, faultOf(s.substring(0, at) + s.substring(at + 1)), at);
        }
        is("an item cut short by the end", faultOf("h;r"), 2);
        is("200 letters that end with a digit", faultOf("t1;".repeat(66) + "t1"), 198);
        is("200 letters that end well", faultOf("t1;".repeat(64) + "c01,1,0;"), NONE);
        is("fault leaves the map", faultThenDisks(), 9);
    }

    private static int faultThenDisks() {
        StrawMap x = new StrawMap();
        writeAll(x, "h;r;d1,1;");
        x.fault();
        x.write('x');
        x.lay();
        return x.count(2) == 9 && x.place(3, 0) == 16 ? 9 : x.count(2);
    }

    private static void layingMaps() {
        StrawMap x = new StrawMap();
        x.weigh(10, 5);
        x.divert(0, 10, 11);
        x.put(0, 5);
        x.up(12, 0);
        x.seen(0, 10, 1);
        writeAll(x, "h;r;");
        are("no disk: not complete", all(x.fault(), x.lay(), x.count(8), x.count(15)), NONE, NO, 3, 1);
        writeAll(x, "d7,3;h;r;d6,2;");
        is("lay", x.lay(), 2);
        are("what a laid map begins with", all(x.count(0), x.count(1), x.count(2), x.count(3), x.count(4),
            x.count(5), x.count(6), x.count(7), x.count(8), x.count(9), x.count(10), x.count(11), x.count(12),
            x.count(14), x.count(15), x.count(16)), 2, 2, 2, 2, 2, 0, 20, 0, 1, 1, 2, 0, 0, 0, 0, 18);
        are("the old epochs are gone", all(x.old(2, 0, 0), x.since(3, 0), x.back(1), x.back(2)),
            NONE, NONE, NO, BAD);
        is("sizes begin anew", x.held(0, 1), 0);
        is("held by both disks", x.held(0, 0), 3);
        is("the text stays", x.lay(), 2);
        is("of several the last one counts", of("c1,1,1;t3;h;r;d1,1;t24;c4,3,0;").count(3), 4);
        is("of several t the last one counts", of("t3;h;r;d1,1;t24;c4,3,0;t07;").count(6), 7);
        x = of("h;r;r;h;d1,1;r;h;d2,99;");
        are("disks go below the rack given last", all(x.node(10, 1), x.node(11, 1), x.node(6, 1), x.node(11, 5)),
            5, 6, 2, 990);
    }

    private static void nodes() {
        StrawMap x = new StrawMap();
        are("the root", all(x.node(0, 0), x.node(0, 1), x.node(0, 2)), 34, NONE, 3);
        are("a hall", all(x.node(3, 0), x.node(3, 1), x.node(3, 2)), 10, 0, 1);
        are("a rack", all(x.node(5, 0), x.node(5, 1), x.node(5, 2)), 6, 1, 2);
        are("a disk", all(x.node(18, 0), x.node(18, 1), x.node(18, 2), x.node(18, 3), x.node(18, 4),
            x.node(18, 5), x.node(18, 6)), 8, 8, 0, 16, 0, 90, 1);
        for (int what = 3; what <= 6; what++) {
            are("only disks have " + what, all(x.node(0, what), x.node(1, what), x.node(4, what)), BAD, BAD, BAD);
        }
        for (int n : new int[] {-1, 9, 19, 21, 22, LOW, HIGH}) {
            is("no node " + n, x.node(n, 0), BAD);
        }
        are("no such property", all(x.node(10, 7), x.node(10, -1), x.node(0, LOW), x.node(0, HIGH)),
            BAD, BAD, BAD, BAD);
        x.reweigh(18, 3);
        x.up(18, 0);
        are("a changed disk", all(x.node(18, 3), x.node(18, 6)), 3, 0);
        x = of("h;r;d1,1;");
        are("a small tree has no more", all(x.node(2, 0), x.node(5, 0), x.node(11, 0), x.node(1, 2)),
            BAD, BAD, BAD, 1);
    }

    private static void overrides() {
        StrawMap x = new StrawMap();
        is("no override at first", x.override(0, 0), BAD);
        // Group 5 is on 17, 12 and 10: three different racks.
        x.divert(5, 17, 18);
        x.divert(5, 18, 16);
        x.divert(5, 12, 11);
        x.divert(5, 17, 18);
        are("an override", all(x.override(1, 0), x.override(1, 1), x.override(1, 2)), 5, 18, 16);
        are("they are applied in order", all(x.override(0, 3), x.override(1, 3), x.place(5, 0)), 1, 1, 16);
        are("11 is in the rack of copy 10", all(x.override(2, 3), x.place(5, 1)), 0, 12);
        are("wrong overrides", all(x.override(3, 0), x.override(-1, 0), x.override(0, 4), x.override(0, -1),
            x.override(LOW, 0), x.override(HIGH, 3)), BAD, BAD, BAD, BAD, BAD, BAD);
        is("the try of a replaced copy stays", x.taken(5, 0), new StrawMap().taken(5, 0));
        x.reweigh(16, 0);
        are("no effect with reweight 0", all(x.override(1, 3), x.place(5, 0)), 0, 18);
        x.reweigh(16, 1);
        are("an effect with reweight 1", all(x.override(1, 3), x.place(5, 0)), 1, 16);
        x.weigh(16, 0);
        are("a weight 0 does not hinder", all(x.override(1, 3), x.place(5, 0)), 1, 16);
        x.rule(3, 3, 0);
        is("with level 3, disks of one rack are apart", x.override(2, 3), hasDisk(x, 5, 11) ? 1 : 0);
        x = of("h;r;d9,99;d0,0;d0,9;c1,3,0;");
        x.divert(0, 10, 11);
        is("not full yet", x.place(0, 0), 11);
        is("a disk with capacity 0 is full", x.refill(), 1);
        are("no effect if full", all(x.override(0, 3), x.place(0, 0)), 0, 10);
    }

    private static boolean hasDisk(StrawMap x, int g, int d) {
        return (x.groups(d) >> g & 1) == 1;
    }

    private static void weighing() {
        StrawMap x = new StrawMap();
        are("weigh", all(x.weigh(10, 40), x.weigh(10, 0), x.weigh(10, 4)), 4, 40, 0);
        are("each is a change", all(x.count(8), x.since(1, 0), x.since(1, 2)), 4, 0, 65535);
        are("the same weight", all(x.weigh(10, 4), x.weigh(18, 8), x.count(8)), NO, NO, 4);
        are("wrong weights and disks", all(x.weigh(10, 41), x.weigh(10, -1), x.weigh(9, 4), x.weigh(19, 4),
            x.weigh(0, 4), x.weigh(22, 4), x.weigh(LOW, 0), x.weigh(10, HIGH), x.count(8)),
            BAD, BAD, BAD, BAD, BAD, BAD, BAD, BAD, 4);
        x.weigh(10, 9);
        are("the sums follow", all(x.node(10, 0), x.node(4, 0), x.node(1, 0), x.node(0, 0)), 9, 11, 17, 39);
    }

    private static void reweighing() {
        StrawMap x = new StrawMap();
        are("reweigh", all(x.reweigh(18, 0), x.groups(18), x.reweigh(18, 16)), 16, 0, 0);
        are("all is as before", all(x.count(8), x.since(1, 2)), 3, 65535);
        are("the same reweight", all(x.reweigh(18, 16), x.count(8)), NO, 3);
        are("wrong", all(x.reweigh(18, 17), x.reweigh(18, -1), x.reweigh(9, 1), x.reweigh(19, 1), x.reweigh(4, 1),
            x.reweigh(10, HIGH), x.reweigh(HIGH, 1), x.count(8)), BAD, BAD, BAD, BAD, BAD, BAD, BAD, 3);
        x.reweigh(18, 7);
        for (int g = 0; g < 16; g++) {
            if (x.draw(g, 18, 99) % 16 >= 7) {
                is("group " + g + " refuses disk 18", hasDisk(x, g, 18) ? 1 : 0, 0);
            }
        }
        is("a reweight is no weight", x.node(18, 0), 8);
    }

    private static void refilling() {
        StrawMap x = new StrawMap();
        is("nothing is loaded", x.refill(), NO);
        // Key 0 is of group 0, on 12, 18 and 10, each of capacity 90.
        x.put(0, 89);
        is("one below the capacity", x.refill(), NO);
        x.put(0, 1);
        are("at the capacity", all(x.refill(), x.count(11), x.count(8), x.refill()), 3, 3, 2, NO);
        are("which ones", all(x.node(12, 4), x.node(18, 4), x.node(10, 4), x.node(11, 4)), 1, 1, 1, 0);
        are("full disks take nothing", all(x.groups(10) | x.groups(12) | x.groups(18)), 0);
        is("but they hold it still", x.held(0, 0), 261);
        x.fail(18);
        are("an empty disk is not full any more", all(x.refill(), x.node(18, 4), x.count(11)), 1, 0, 2);
        is("fullness is of the map", x.back(2), 4);
        are("back at epoch 2", all(x.node(18, 4), x.count(11)), 1, 3);
        is("and is set right again", x.refill(), 1);
    }

    private static void diverting() {
        StrawMap x = new StrawMap();
        is("divert", x.divert(5, 10, 11), 1);
        are("a change", all(x.count(8), x.place(5, 2), x.old(1, 5, 2)), 2, 11, 10);
        is("the same again", x.divert(5, 10, 11), NO);
        are("like it, but not the same", all(x.divert(5, 11, 10), x.divert(6, 10, 11), x.divert(5, 10, 12)), 2, 3, 4);
        are("wrong", all(x.divert(16, 10, 11), x.divert(-1, 10, 11), x.divert(0, 9, 11), x.divert(0, 10, 19),
            x.divert(0, 10, 10), x.divert(0, 0, 10), x.divert(LOW, 10, 11), x.divert(0, HIGH, 11)),
            BAD, BAD, BAD, BAD, BAD, BAD, BAD, BAD);
        are("up to six", all(x.divert(0, 10, 11), x.divert(15, 18, 17), x.divert(15, 18, 16), x.count(7)),
            5, 6, FULL, 6);
        are("NO before FULL, BAD before both", all(x.divert(5, 10, 11), x.divert(5, 10, 10)), NO, BAD);
        is("count of epochs", x.count(8), 7);
    }

    private static void lifting() {
        StrawMap x = new StrawMap();
        are("nothing to lift", all(x.lift(0), x.lift(-1)), BAD, BAD);
        x.divert(1, 10, 11);
        x.divert(2, 12, 13);
        x.divert(3, 14, 15);
        are("lift the middle one", all(x.lift(1), x.override(0, 0), x.override(1, 0), x.override(1, 1),
            x.override(1, 2), x.override(2, 0), x.count(8)), 2, 1, 3, 14, 15, BAD, 5);
        are("wrong", all(x.lift(2), x.lift(-1), x.lift(LOW), x.lift(HIGH), x.count(7)), BAD, BAD, BAD, BAD, 2);
        are("back brings it again", all(x.back(4), x.count(7), x.override(1, 0), x.override(2, 2)), 6, 3, 2, 15);
        are("lift all", all(x.lift(0), x.lift(0), x.lift(0), x.lift(0)), 2, 1, 0, BAD);
        is("as at first", x.place(3, 1), 14);
    }

    private static void rules() {
        StrawMap x = new StrawMap();
        is("the same rule", x.rule(3, 2, 0), NO);
        are("rule", all(x.rule(4, 3, 1), x.rule(1, 1, 0), x.rule(1, 1, 1), x.rule(1, 2, 1)), 320, 431, 110, 111);
        are("it is set", all(x.count(3), x.count(4), x.count(5), x.count(8)), 1, 2, 1, 5);
        are("wrong", all(x.rule(0, 1, 0), x.rule(5, 1, 0), x.rule(1, 0, 0), x.rule(1, 4, 0), x.rule(1, 1, 2),
            x.rule(1, 1, -1), x.rule(LOW, 1, 0), x.rule(1, HIGH, 0), x.count(8)),
            BAD, BAD, BAD, BAD, BAD, BAD, BAD, BAD, 5);
        is("no rule that only sums up to the same", x.rule(1, 1, 11), BAD);
        are("one copy only", all(x.place(0, 0), x.place(0, 1)), 12, NONE);
    }

    private static void racksAndDisks() {
        StrawMap x = new StrawMap();
        are("no halls", all(x.rack(0), x.rack(4), x.rack(10), x.rack(-1), x.rack(HIGH)), BAD, BAD, BAD, BAD, BAD);
        are("a rack", all(x.rack(3), x.node(9, 0), x.node(9, 1), x.node(9, 2), x.count(1), x.count(8)),
            9, 0, 3, 0, 6, 2);
        are("no more racks", all(x.rack(3), x.rack(0), x.count(8)), FULL, BAD, 2);
        is("an empty rack moves nothing", x.since(1, 2), 65535);
        are("wrong disks", all(x.disk(3, 1, 1), x.disk(10, 1, 1), x.disk(9, 41, 1), x.disk(9, -1, 1),
            x.disk(9, 1, 100), x.disk(9, 1, -1), x.disk(0, 1, 1), x.disk(HIGH, 1, 1), x.disk(9, LOW, 1),
            x.disk(9, 1, HIGH)), BAD, BAD, BAD, BAD, BAD, BAD, BAD, BAD, BAD, BAD);
        is("a disk", x.disk(9, 40, 99), 19);
        are("what it is", all(x.node(19, 0), x.node(19, 1), x.node(19, 3), x.node(19, 4), x.node(19, 5),
            x.node(19, 6), x.load(19, 0), x.count(10), x.node(9, 2), x.node(0, 0)),
            40, 9, 16, 0, 990, 1, 0, 10, 1, 74);
        int holding = 0;
        for (int g = 0; g < 16; g++) {
            holding |= x.held(g, 0) >> 9;
        }
        is("it holds nothing", holding, 0);
        is("but is placed", x.groups(19) == 0 ? 0 : 1, 1);
        are("up to twelve", all(x.disk(4, 0, 0), x.disk(4, 40, 99), x.disk(4, 1, 1), x.count(2), x.disk(3, 1, 1)),
            20, 21, FULL, 12, BAD);
        is("the last disk", x.node(21, 5), 990);
        x = of("h;r;d1,1;");
        are("a small tree", all(x.rack(1), x.rack(2), x.disk(5, 0, 0), x.disk(6, 1, 1)), 5, BAD, 11, BAD);
    }

    private static void moving() {
        StrawMap x = new StrawMap();
        are("a disk", all(x.move(10, 8), x.node(10, 1), x.node(4, 0), x.node(1, 0), x.node(8, 0), x.node(3, 0),
            x.node(0, 0), x.node(8, 2), x.count(8)), 4, 8, 2, 8, 14, 14, 34, 3, 2);
        are("a rack with its disks", all(x.move(8, 1), x.node(8, 1), x.node(3, 0), x.node(1, 0), x.node(3, 2),
            x.node(18, 1)), 3, 1, 0, 22, 0, 8);
        are("there already", all(x.move(8, 1), x.move(10, 8), x.count(8)), NO, NO, 3);
        are("wrong", all(x.move(0, 1), x.move(1, 0), x.move(1, 2), x.move(4, 0), x.move(4, 5), x.move(10, 1),
            x.move(10, 11), x.move(9, 1), x.move(19, 4), x.move(10, 9), x.move(LOW, 1), x.move(10, HIGH),
            x.count(8)), BAD, BAD, BAD, BAD, BAD, BAD, BAD, BAD, BAD, BAD, BAD, BAD, 3);
        x.rule(4, 1, 0);
        int beyond = 0;
        for (int g = 0; g < 16; g++) {
            beyond += x.place(g, 2) == NONE ? 0 : 1;
        }
        is("with an empty hall there are two copies at most", beyond, 0);
    }

    private static void goingBack() {
        StrawMap x = new StrawMap();
        are("the present one", all(x.back(1), x.back(0), x.back(2), x.back(-1), x.back(LOW), x.back(HIGH)),
            NO, BAD, BAD, BAD, BAD, BAD);
        for (int w = 20; w < 24; w++) {
            x.weigh(10, w);
        }
        is("epoch 5", x.count(8), 5);
        are("the oldest one known", all(x.back(1), x.count(8), x.node(10, 0), x.old(1, 0, 0), x.back(1),
            x.count(9)), 6, 6, 4, NONE, BAD, 5);
        are("the epochs between", all(x.back(2), x.node(10, 0), x.back(3), x.back(3), x.node(10, 0)),
            7, 20, 8, BAD, 21);
        is("its placements too", x.since(8, 2), 65535);
        x.rack(1);
        are("fewer racks", all(x.back(8), x.back(9), x.count(8)), NO, NO, 9);
        x.disk(4, 1, 1);
        are("fewer disks", all(x.back(9), x.back(11)), NO, BAD);
        x.rule(1, 1, 1);
        x.reweigh(10, 3);
        are("as many", all(x.back(10), x.count(3), x.node(10, 3)), 13, 3, 16);
        StrawMap y = new StrawMap();
        y.up(10, 0);
        y.put(0, 7);
        y.weigh(11, 9);
        y.back(1);
        are("the data stay", all(y.node(10, 6), y.held(0, 1)), 0, 7);
    }

    private static void straws() {
        StrawMap x = new StrawMap();
        are("group", all(x.group(0), x.group(1), x.group(77), x.group(9999), x.group(8)), 0, 15, 10, 9, 8);
        are("wrong keys", all(x.group(-1), x.group(10000), x.group(LOW), x.group(HIGH)), BAD, BAD, BAD, BAD);
        are("draw", all(x.draw(0, 0, 0), x.draw(3, 10, 0), x.draw(7, 10, 99), x.draw(15, 18, 99)),
            2, 37716, 14031, drawn(15, 18, 99));
        are("wrong draws", all(x.draw(-1, 0, 0), x.draw(16, 0, 0), x.draw(0, -1, 0), x.draw(0, 9, 0),
            x.draw(0, 19, 0), x.draw(0, 22, 0), x.draw(0, 0, -1), x.draw(0, 0, 100), x.draw(LOW, 0, 0),
            x.draw(0, HIGH, 0), x.draw(0, 0, HIGH)), BAD, BAD, BAD, BAD, BAD, BAD, BAD, BAD, BAD, BAD, BAD);
        x.rack(1);
        is("a new rack can be drawn", x.draw(15, 9, 99), drawn(15, 9, 99));
        are("want", all(x.want(1), x.want(2), x.want(3), x.want(32767), x.want(32768), x.want(40000),
            x.want(65521)), 65536, 61440, 59044, 4097, 4096, 2918, 2);
        are("wrong wants", all(x.want(0), x.want(65522), x.want(-1), x.want(LOW), x.want(HIGH)),
            BAD, BAD, BAD, BAD, BAD);
        are("a square that is just 131072", all(x.want(46340), x.want(46341)), 2049, 2048);
    }

    private static int wanted(int u) {
        int e = BigInteger.valueOf(u).bitLength() - 1;
        long v = u;
        for (int i = e; i < 16; i++) {
            v *= 2;
        }
        int p = 0;
        for (int i = 0; i < 12; i++) {
            v = v * v / 65536;
            p *= 2;
            if (v >= 131072) {
                v /= 2;
                p += 1;
            }
        }
        return 65536 - 4096 * e - p;
    }

    private static int drawn(int g, int n, int t) {
        long y = 7919 * g + 613 * n + 4093 * t + 1;
        return (int) (1 + y * y % 65521 * y % 65521);
    }

    private static void choices() {
        StrawMap x = new StrawMap();
        are("chosen", all(x.chosen(3, 0, 0), x.chosen(0, 0, 1), x.chosen(0, 0, 4), x.chosen(5, 1, 1)), 2, 5, 10, 5);
        are("wrong", all(x.chosen(16, 0, 0), x.chosen(-1, 0, 0), x.chosen(0, 100, 0), x.chosen(0, -1, 0),
            x.chosen(0, 0, 10), x.chosen(0, 0, 9), x.chosen(0, 0, -1), x.chosen(0, 0, 19), x.chosen(LOW, 0, 0),
            x.chosen(0, HIGH, 0), x.chosen(0, 0, HIGH)), BAD, BAD, BAD, BAD, BAD, BAD, BAD, BAD, BAD, BAD, BAD);
        for (int t = 0; t < 100; t++) {
            is("the only rack of hall 3", x.chosen(9, t, 3), 8);
            is("the only disk of rack 7", x.chosen(9, t, 7), 16);
            int lower = wanted(drawn(9, 10, t)) * 2;
            int higher = wanted(drawn(9, 11, t)) * 4;
            is("by want and weight, try " + t, x.chosen(9, t, 4), higher < lower ? 11 : 10);
        }
        for (int g = 0; g < 16; g++) {
            x = new StrawMap();
            for (int t = 0; t < 100; t++) {
                is("at the root, group " + g + ", try " + t, x.chosen(g, t, 0), hallByHand(x, g, t));
            }
        }
        x = new StrawMap();
        for (int g = 15; g >= 0; g--) {
            is("again, group " + g, x.chosen(g, 0, 0), hallByHand(x, g, 0));
        }
        x.rack(1);
        is("none below", x.chosen(0, 0, 9), NONE);
        x.weigh(16, 0);
        are("weight 0", all(x.chosen(0, 0, 7), x.chosen(0, 50, 7)), NONE, NONE);
        x = of("h;r;d0,1;d0,1;");
        are("nothing weighs", all(x.chosen(0, 0, 0), x.chosen(0, 0, 1), x.chosen(0, 0, 4)), NONE, NONE, NONE);
    }

    private static int hallByHand(StrawMap x, int g, int t) {
        double[] straw = new double[4];
        int best = 1;
        for (int h = 1; h <= 3; h++) {
            straw[h] = (double) wanted(drawn(g, h, t)) / x.node(h, 0);
            best = straw[h] < straw[best] ? h : best;
        }
        return best;
    }

    private static void placements() {
        StrawMap x = new StrawMap();
        are("place", all(x.place(0, 0), x.place(0, 1), x.place(0, 2), x.place(0, 3), x.place(13, 0)),
            12, 18, 10, NONE, 11);
        are("wrong copies", all(x.place(16, 0), x.place(-1, 0), x.place(0, 4), x.place(0, -1), x.place(LOW, 0),
            x.place(0, HIGH)), BAD, BAD, BAD, BAD, BAD, BAD);
        are("wrong tries", all(x.taken(16, 0), x.taken(-1, 0), x.taken(0, 4), x.taken(0, -1), x.taken(LOW, 0),
            x.taken(0, HIGH)), BAD, BAD, BAD, BAD, BAD, BAD);
        for (int g = 0; g < 16; g++) {
            for (int c = 0; c < 3; c++) {
                int t = x.taken(g, c);
                is("copy " + c + " of group " + g + " is its try's disk", x.place(g, c), tried(x, g, t));
                is("tries go onward", c == 0 || t > x.taken(g, c - 1) ? 1 : 0, 1);
                is("racks differ", c == 0 || x.node(x.place(g, c), 1) != x.node(x.place(g, 0), 1) ? 1 : 0, 1);
            }
            is("copies from N on are none", x.taken(g, 3), NONE);
        }
        x.rule(4, 1, 0);
        for (int g = 0; g < 16; g++) {
            are("three halls: three copies", all(x.place(g, 3), x.taken(g, 3)), NONE, NONE);
        }
        x = of("h;r;d1,1;d1,1;c2,3,0;t1;");
        is("one try: one copy", x.place(0, 1), NONE);
        is("and the first is there", x.taken(0, 0), 0);
    }

    private static int tried(StrawMap x, int g, int t) {
        return x.chosen(g, t, x.chosen(g, t, x.chosen(g, t, 0)));
    }

    private static void fixedPlacements() {
        StrawMap x = new StrawMap();
        x.rule(3, 2, 1);
        for (int g = 0; g < 16; g++) {
            for (int c = 0; c < 3; c++) {
                int t = x.taken(g, c);
                is("fixed: the copy of try " + t, t == NONE ? c : t % 3, c);
                is("fixed: its disk", x.place(g, c), t == NONE ? NONE : tried(x, g, t));
            }
        }
        is("fixed: the second copy of group 9 comes late", ninth(), 3);
        x = of("h;r;d9,9;c4,3,1;t24;");
        are("a single disk", all(x.place(0, 0), x.place(0, 1), x.taken(0, 0)), 10, NONE, 0);
        x = of("h;r;d9,9;d9,9;c3,3,1;t2;");
        is("copies may stay out behind others", x.place(0, 2), NONE);
    }

    private static int ninth() {
        StrawMap x = new StrawMap();
        x.rule(2, 3, 1);
        return x.taken(9, 1);
    }

    private static void groupsAndShares() {
        StrawMap x = new StrawMap();
        is("all groups are below the root", x.groups(0), 65535);
        is("the groups of a rack are those of its disks", x.groups(4), x.groups(10) | x.groups(11));
        is("the groups of a hall are those of its racks", x.groups(2), x.groups(6) | x.groups(7));
        for (int g = 0; g < 16; g++) {
            boolean has = x.place(g, 0) == 18 || x.place(g, 1) == 18 || x.place(g, 2) == 18;
            is("group " + g + " of disk 18", hasDisk(x, g, 18) ? 1 : 0, has ? 1 : 0);
        }
        are("wrong nodes", all(x.groups(9), x.groups(19), x.groups(-1), x.groups(22), x.groups(LOW),
            x.groups(HIGH)), BAD, BAD, BAD, BAD, BAD, BAD);
        are("shares", all(x.share(1, 0), x.share(1, 1), x.share(0, 0), x.share(0, 1), x.share(18, 0),
            x.share(18, 1), x.share(15, 0), x.share(15, 1)), 6, 17, 1, 1, 4, 17, 1, 34);
        are("wrong shares", all(x.share(9, 0), x.share(0, 2), x.share(0, -1), x.share(-1, 0), x.share(HIGH, 0),
            x.share(0, LOW)), BAD, BAD, BAD, BAD, BAD, BAD);
        x.weigh(18, 0);
        are("nothing of the whole", all(x.share(18, 0), x.share(18, 1)), 0, 1);
        x = of("h;r;d0,9;");
        are("the whole is nothing", all(x.share(0, 0), x.share(10, 1), x.share(11, 0), x.share(0, 2), x.groups(0)),
            NONE, NONE, BAD, BAD, 0);
    }

    private static void spreads() {
        is("the spread at first", new StrawMap().spread(), 9);
        StrawMap x = of("h;r;d5,9;d0,9;d5,0;c1,3,0;");
        x.reweigh(12, 0);
        is("a single disk that takes part", x.spread(), 0);
        is("it has all groups", x.groups(10), 65535);
        x.divert(3, 10, 11);
        is("pairs of disks that take no part do not count", x.spread(), 0);
        x.weigh(11, 40);
        x.reweigh(11, 0);
        is("reweight 0 takes no part", x.spread(), 0);
        x.reweigh(10, 0);
        is("none takes part", x.spread(), 0);
        x = of("h;r;d40,0;d1,9;c1,3,0;");
        int first = Integer.bitCount(x.groups(10));
        is("both take part", x.spread(), Math.abs(first - (16 - first)));
        x.refill();
        is("a full one takes no part", x.spread(), 0);
        x = of("h;r;d9,9;c1,3,0;");
        x.reweigh(10, 1);
        are("it takes part and has no pair", all(x.groups(10), x.spread()), 0, 0);
        is("two disks with all groups", of("h;r;d40,9;h;r;d40,9;c2,1,0;").spread(), 0);
    }

    private static void oldMaps() {
        StrawMap x = new StrawMap();
        is("the present map", x.old(1, 3, 0), 16);
        x.weigh(18, 16);
        are("since", all(x.since(1, 0), x.since(1, 1), x.since(1, 2), x.since(2, 0), x.since(2, 1), x.since(2, 2)),
            10, 38, 50651, 0, 48, 65535);
        are("not known", all(x.since(0, 0), x.since(3, 1), x.since(LOW, 2), x.since(HIGH, 0)),
            NONE, NONE, NONE, NONE);
        are("wrong: BAD also if not known", all(x.since(1, 3), x.since(1, -1), x.since(0, 3), x.since(1, HIGH)),
            BAD, BAD, BAD, BAD);
        are("old", all(x.old(1, 0, 0), x.old(1, 0, 3), x.old(0, 0, 0), x.old(3, 0, 0), x.old(LOW, 0, 0),
            x.old(HIGH, 0, 0)), 12, NONE, NONE, NONE, NONE, NONE);
        are("wrong old", all(x.old(1, 16, 0), x.old(1, -1, 0), x.old(1, 0, 4), x.old(1, 0, -1), x.old(9, 16, 0),
            x.old(1, LOW, 0), x.old(1, 0, HIGH)), BAD, BAD, BAD, BAD, BAD, BAD, BAD);
        for (int w = 1; w <= 4; w++) {
            x.weigh(10, 10 + w);
        }
        are("five epochs are known", all(x.count(8), x.count(9), x.old(1, 0, 0), x.since(1, 0), x.old(2, 3, 3),
            x.since(2, 2) == NONE ? 0 : 1), 6, 5, NONE, NONE, NONE, 1);
        x = new StrawMap();
        x.rule(2, 2, 0);
        are("fewer copies", all(x.since(1, 0), x.since(1, 1), x.since(1, 2)), 0, 32, 0);
        x.rule(3, 2, 0);
        is("and more again", x.since(2, 0), 16);
        x = new StrawMap();
        x.divert(0, 12, 13);
        are("an override changes one pair", all(x.since(1, 0), x.since(1, 1), x.since(1, 2)), 1, 47, 65534);
    }

    private static void otherWeights() {
        StrawMap x = new StrawMap();
        are("would", all(x.would(10, 8, 0), x.would(10, 4, 0), x.would(10, 4, 1), x.would(10, 4, 2)), 6, 0, 0, 0);
        x.weigh(18, 16);
        are("would after a change", all(x.would(18, 8, 0), x.would(18, 8, 1), x.would(18, 8, 2),
            x.would(10, 40, 0), x.would(10, 40, 1), x.would(10, 40, 2)), 10, 1, 4, 20, 8, 12);
        are("wrong would", all(x.would(9, 1, 0), x.would(19, 1, 0), x.would(10, 41, 0), x.would(10, -1, 0),
            x.would(10, 1, 3), x.would(10, 1, -1), x.would(LOW, 1, 0), x.would(10, HIGH, 0)),
            BAD, BAD, BAD, BAD, BAD, BAD, BAD, BAD);
        are("least", all(x.least(10, 1), x.least(10, 4), x.least(10, 16), x.least(16, 1), x.least(16, 4)),
            1, 2, NONE, 1, 2);
        are("wrong least", all(x.least(10, 0), x.least(10, 17), x.least(9, 1), x.least(19, 1), x.least(LOW, 1),
            x.least(10, HIGH), x.least(10, -1)), BAD, BAD, BAD, BAD, BAD, BAD, BAD);
        are("nothing has changed", all(x.count(8), x.node(10, 0), x.node(18, 0), x.node(0, 0), x.would(18, 16, 0)),
            2, 4, 16, 42, 0);
        x.weigh(10, x.least(10, 7));
        is("the least weight is enough", Integer.bitCount(x.groups(10)) >= 7 ? 1 : 0, 1);
        x.weigh(10, x.node(10, 0) - 1);
        is("and one less is not", Integer.bitCount(x.groups(10)) < 7 ? 1 : 0, 1);
        x = of("h;r;d9,9;d0,9;c1,3,0;");
        x.divert(2, 10, 11);
        are("an override needs no weight", all(x.least(11, 1), x.least(10, 16), x.least(10, 15)), 0, NONE, 1);
        x = of("h;r;d9,9;c1,3,0;");
        is("the only disk", x.least(10, 16), 1);
        x = of("h;r;d1,9;d20,9;c1,3,0;");
        are("40 is the last one", all(x.least(10, 11), x.least(10, 12)), 40, NONE);
    }

    private static void evening() {
        StrawMap x = new StrawMap();
        is("the disk of the first map", x.even(0), 17);
        x.weigh(18, 16);
        are("even after a change", all(x.even(0), x.even(1), x.even(2)), 12, 2, 10);
        are("wrong", all(x.even(3), x.even(-1), x.even(LOW), x.even(HIGH)), BAD, BAD, BAD, BAD);
        is("nothing has changed", x.count(8), 2);
        x.weigh(12, 2);
        is("the spread is as told", x.spread(), 10);
        x = of("h;r;d9,9;c1,3,0;");
        are("no spread to lower", all(x.even(0), x.even(1), x.even(2), x.even(3)), NONE, NONE, NONE, BAD);
        evensAsByHand("of several the lowest, up before down",
            "h;r;d4,9;d2,9;r;d3,9;d3,9;h;r;d5,9;d1,9;r;d6,9;h;r;d2,9;d8,9;c3,2,0;t20;", NONE);
        evensAsByHand("down to 1", "h;r;d1,9;d1,9;d2,9;c1,3,0;", NONE);
        evensAsByHand("down to 1, the lowest disk", "h;r;d2,9;d1,9;d0,9;c1,3,0;", NONE);
        evensAsByHand("up to 40", "h;r;d39,9;d40,9;h;r;d39,9;d14,9;c1,3,0;", NONE);
        evensAsByHand("not down to 0, which would be better", "h;r;d1,9;d5,9;d7,9;c1,3,0;", NONE);
        evensAsByHand("not up to 41, which would be better", "h;r;d40,9;d40,9;d33,9;h;r;d39,9;d29,9;c2,3,0;", NONE);
        evensAsByHand("nor here", "h;r;d39,9;d5,9;h;r;d39,9;d23,9;d40,9;d30,9;c3,3,0;", NONE);
        evensAsByHand("no disk that takes no part", "h;r;d2,9;d2,9;d7,9;c1,3,0;", 11);
        evensAsByHand("nor here", "h;r;d4,9;d17,9;d7,9;c1,3,0;", 11);
    }

    /** Tries each change on a map of its own; a lame disk has the reweight 0. */
    private static void evensAsByHand(String what, String map, int lame) {
        StrawMap x = of(map);
        x.reweigh(lame, 0);
        int[] best = {NONE, NONE, x.spread()};
        for (int d = 10; d < 10 + x.count(2); d++) {
            for (int by = 1; by >= -1; by -= 2) {
                StrawMap y = of(map);
                y.reweigh(lame, 0);
                int w = y.node(d, 0) + by;
                if (d != lame && w >= 1 && y.weigh(d, w) >= 0 && y.spread() < best[2]) {
                    best = new int[] {d, w, y.spread()};
                }
            }
        }
        are(what, all(x.even(0), x.even(1), x.even(2)), best[0], best[1], best[0] == NONE ? NONE : best[2]);
    }

    private static void putting() {
        StrawMap x = new StrawMap();
        are("put", all(x.put(77, 50), x.put(77, 1), x.put(77, 99), x.held(10, 1), x.held(9, 1)), 50, 51, 150, 150, 0);
        are("wrong", all(x.put(-1, 1), x.put(10000, 1), x.put(0, 0), x.put(0, 100), x.put(0, -1), x.put(LOW, 1),
            x.put(0, HIGH)), BAD, BAD, BAD, BAD, BAD, BAD, BAD);
        // Group 0 is on 12, 18 and 10.
        x.up(12, 0);
        is("held by a disk that is down", x.held(0, 0), 261);
        are("which loses it by a put", all(x.put(0, 5), x.held(0, 0)), 5, 257);
        x.up(12, 1);
        are("and is to be copied to", all(x.count(14), x.held(0, 2), x.load(12, 0), x.load(12, 1)), 1, 18, 0, 5);
        x.up(18, 0);
        x.up(10, 0);
        are("12 is up but does not hold it", all(x.put(0, 5), x.held(0, 1)), NO, 5);
        is("BAD before NO", x.put(0, 100), BAD);
        x = new StrawMap();
        x.up(10, 0);
        x.up(12, 0);
        x.up(18, 0);
        is("all are down", x.put(0, 1), NO);
        x = new StrawMap();
        for (int i = 0; i < 101; i++) {
            x.put(0, 99);
        }
        are("up to 9999", all(x.held(0, 1), x.put(0, 1), x.held(0, 1)), 9999, FULL, 9999);
        x = new StrawMap();
        for (int i = 0; i < 100; i++) {
            x.put(0, 99);
        }
        are("just 9999", all(x.held(0, 1), x.put(0, 98), x.put(0, 1), x.put(0, 1)), 9900, 9998, 9999, FULL);
        x.fail(10);
        x.up(12, 0);
        are("FULL leaves the holders", all(x.put(0, 1), x.held(0, 0)), FULL, 260);
        x.up(18, 0);
        is("NO before FULL", x.put(0, 1), NO);
        x = of("h;r;d0,9;");
        is("no placement", x.put(1, 1), NO);
        x = of("h;r;d9,9;d9,9;c1,3,0;");
        int g = Integer.numberOfTrailingZeros(x.groups(10));
        x.weigh(10, 0);
        are("held, but not by a disk of the placement", all(x.held(g, 2), x.put(keyOf(x, g), 1)), 10, NO);
    }

    private static int keyOf(StrawMap x, int g) {
        for (int k = 0; k < 10000; k++) {
            if (x.group(k) == g) {
                return k;
            }
        }
        return NONE;
    }

    private static void ticking() {
        StrawMap x = new StrawMap();
        are("nothing to copy", all(x.tick(1), x.tick(8)), 0, 0);
        are("wrong", all(x.tick(0), x.tick(9), x.tick(-1), x.tick(LOW), x.tick(HIGH)), BAD, BAD, BAD, BAD, BAD);
        x.weigh(18, 16);
        are("ten to copy", all(x.since(1, 0), x.tick(1), x.tick(8), x.count(14), x.tick(8), x.count(14)),
            10, 1, 8, 1, 1, 0);
        for (int g = 0; g < 16; g++) {
            is("held by just its placement " + g, x.held(g, 0),
                1 << (x.place(g, 0) - 10) | 1 << (x.place(g, 1) - 10) | 1 << (x.place(g, 2) - 10));
        }
        // Groups 0 and 1 are both on 12 and 18; then 10 and 16. Group 3 is on 16, 14 and 18.
        x = new StrawMap();
        x.put(keyOf(x, 1), 5);
        x.put(keyOf(x, 3), 9);
        x.fail(18);
        x.up(18, 1);
        x.tick(1);
        are("the greatest first", all(x.held(3, 0), x.held(1, 0)), 336, 68);
        x.tick(1);
        are("then the next", all(x.held(1, 0), x.held(0, 0)), 324, 5);
        x.tick(1);
        are("then the lowest", all(x.held(0, 0), x.held(4, 0)), 261, 36);
        x.fail(12);
        x.up(12, 1);
        // Group 4 is on 12, 18 and 15, and only 15 holds it now; groups 1 and 3 are greater.
        x.tick(1);
        is("the fewest holders come first, and the first copy", x.held(4, 0), 36);
        x = new StrawMap();
        x.divert(0, 12, 13);
        x.up(13, 0);
        are("the new disk is down", all(x.tick(8), x.held(0, 0), x.count(14)), 0, 261, 0);
        x.up(13, 1);
        are("it is up", all(x.count(14), x.tick(8), x.held(0, 0)), 1, 1, 1 << 3 | 1 << 8 | 1);
        x = new StrawMap();
        x.divert(0, 12, 13);
        x.tick(1);
        x.divert(0, 13, 12);
        x.up(10, 0);
        x.up(18, 0);
        are("down disks that hold count as holding", all(x.tick(1), x.held(0, 0)), 1, 261);
        x = new StrawMap();
        x.rule(1, 2, 0);
        x.up(12, 0);
        x.tick(1);
        are("spare copies stay while all of the placement are down", all(x.held(0, 0), x.held(2, 0)), 261, 16);
        x = of("h;r;d9,9;c1,3,0;");
        x.weigh(10, 0);
        are("an empty placement keeps what it has", all(x.tick(8), x.held(0, 0)), 0, 1);
    }

    private static void upAndDown() {
        StrawMap x = new StrawMap();
        are("up", all(x.up(10, 1), x.up(10, 0), x.up(10, 0), x.up(11, 0), x.up(10, 1), x.count(10)),
            NO, 8, NO, 7, 8, 8);
        are("wrong", all(x.up(9, 1), x.up(19, 1), x.up(10, 2), x.up(10, -1), x.up(LOW, 1), x.up(10, HIGH)),
            BAD, BAD, BAD, BAD, BAD, BAD);
        is("what it holds stays", x.held(10, 0), 322);
        is("no change of the map", x.count(8), 1);
        are("fail", all(x.fail(18), x.fail(18), x.node(18, 6), x.count(10), x.load(18, 0)), 11, 0, 0, 7, 0);
        x = new StrawMap();
        x.up(18, 0);
        are("one that is down fails too", all(x.fail(18), x.count(10)), 11, 8);
        are("wrong fails", all(x.fail(9), x.fail(19), x.fail(0), x.fail(-1), x.fail(LOW), x.fail(HIGH)),
            BAD, BAD, BAD, BAD, BAD, BAD);
        is("the placement stays", x.place(0, 1), 18);
    }

    private static void holding() {
        StrawMap x = new StrawMap();
        are("held", all(x.held(0, 0), x.held(0, 1), x.held(0, 2)), 261, 0, 12);
        x.up(12, 0);
        is("the next serves", x.held(0, 2), 18);
        x.rule(1, 2, 0);
        is("the lowest serves", x.held(0, 2), 10);
        x.up(10, 0);
        is("then the next", x.held(0, 2), 18);
        x.up(18, 0);
        are("waiting", all(x.held(0, 2), x.held(0, 0), x.count(12)), NONE, 261, 0);
        are("wrong", all(x.held(16, 0), x.held(-1, 0), x.held(0, 3), x.held(0, -1), x.held(LOW, 0),
            x.held(0, HIGH)), BAD, BAD, BAD, BAD, BAD, BAD);
        x = new StrawMap();
        x.put(0, 50);
        x.put(1, 60);
        // Group 0 is on 12, 18 and 10; group 15 on 12, 14 and 18.
        are("load", all(x.load(12, 0), x.load(10, 0), x.load(14, 0), x.load(11, 0), x.load(12, 1)),
            110, 50, 60, 0, 110);
        x.fail(12);
        are("after a failure", all(x.load(12, 0), x.load(12, 1)), 0, 110);
        x.reweigh(10, 0);
        are("after a change", all(x.load(10, 0), x.load(10, 1)), 50, 0);
        are("wrong loads", all(x.load(9, 0), x.load(19, 0), x.load(10, 2), x.load(10, -1), x.load(LOW, 0),
            x.load(10, HIGH)), BAD, BAD, BAD, BAD, BAD, BAD);
    }

    private static void losing() {
        StrawMap x = new StrawMap();
        are("loses", all(x.loses(0, 0), x.loses(0, 10), x.loses(10, 0), x.loses(10, 11)), 65535, 65535, 65535, 0);
        for (int n = 1; n <= 3; n++) {
            for (int m = 1; m <= 3; m++) {
                int third = 0;
                for (int h = 1; h <= 3; h++) {
                    third |= h == n || h == m ? 0 : x.groups(h);
                }
                is("halls " + n + " and " + m, x.loses(n, m), 65535 & ~third);
            }
        }
        x.fail(12);
        x.fail(18);
        are("a disk that holds alone", all(x.loses(10, 10) & 1, x.loses(4, 15) & 17, x.loses(12, 18)), 1, 17, 0);
        x.fail(10);
        are("a lost group is lost already", all(x.loses(0, 0) & 1, x.count(12) > 0 ? 1 : 0), 0, 1);
        x = new StrawMap();
        x.up(10, 0);
        is("also by disks that are down", x.loses(0, 0), 65535);
        are("wrong", all(x.loses(9, 0), x.loses(0, 9), x.loses(19, 1), x.loses(-1, 1), x.loses(1, 22),
            x.loses(LOW, 0), x.loses(0, HIGH)), BAD, BAD, BAD, BAD, BAD, BAD, BAD);
    }

    private static void storms() {
        StrawMap x = new StrawMap();
        are("wrong", all(x.storm(-1, 1, 0), x.storm(10000, 1, 0), x.storm(0, 0, 0), x.storm(0, 31, 0),
            x.storm(0, 1, 3), x.storm(0, 1, -1), x.storm(LOW, 1, 0), x.storm(0, HIGH, 0)),
            BAD, BAD, BAD, BAD, BAD, BAD, BAD, BAD);
        for (int z : new int[] {0, 1, 9, 77, 5000, 9999}) {
            for (int n : new int[] {1, 7, 30}) {
                StrawMap y = new StrawMap();
                int copyings = stormByHand(y, z, n);
                are("storm " + z + " of " + n, all(x.storm(z, n, 0), x.storm(z, n, 1), x.storm(z, n, 2)),
                    y.count(12), copyings, y.count(10));
            }
        }
        are("nothing changes", all(x.count(10), x.count(12), x.count(14), x.held(0, 0)), 9, 0, 0, 261);
        int differing = 0;
        for (int z = 0; z < 60; z++) {
            StrawMap small = new StrawMap();
            StrawMap great = new StrawMap();
            StrawMap byHand = new StrawMap();
            for (int k = 0; k < 16; k++) {
                great.put(k, 1 + 6 * great.group(k));
                byHand.put(k, 1 + 6 * byHand.group(k));
            }
            int copyings = stormByHand(byHand, z, 30);
            are("storm with sizes " + z, all(great.storm(z, 30, 0), great.storm(z, 30, 1), great.held(9, 1)),
                byHand.count(12), copyings, byHand.held(9, 1));
            differing += great.storm(z, 30, 0) != small.storm(z, 30, 0) ? 1 : 0;
        }
        is("sizes matter in storms", differing > 0 ? 1 : 0, 1);
    }

    private static int stormByHand(StrawMap y, int z, int n) {
        int copyings = 0;
        for (int k = 0; k < n; k++) {
            long x = 7919L * z + 6151L * k + 1;
            int v = (int) (x % 65521 * (x % 65521) % 65521);
            int d = 10 + v % y.count(2);
            if (v / 16 % 4 == 0) {
                y.fail(d);
            } else if (v / 16 % 4 == 1) {
                y.up(d, 1);
            }
            copyings += y.tick(2);
        }
        return copyings;
    }

    private static void observing() {
        StrawMap x = new StrawMap();
        are("without observations", all(x.weights(10, 0), x.weights(10, 1), x.weights(10, 2), x.forget()),
            41, 0, 40, 0);
        are("wrong", all(x.seen(16, 10, 0), x.seen(-1, 10, 0), x.seen(0, 9, 0), x.seen(0, 19, 0), x.seen(0, 10, 2),
            x.seen(0, 10, -1), x.seen(LOW, 10, 0), x.seen(0, HIGH, 0), x.count(15)),
            BAD, BAD, BAD, BAD, BAD, BAD, BAD, BAD, 0);
        is("seen", x.seen(3, 10, 1), 1);
        int fits = 0;
        int first = NONE;
        int last = NONE;
        for (int w = 0; w <= 40; w++) {
            StrawMap y = new StrawMap();
            y.weigh(10, w);
            if (hasDisk(y, 3, 10)) {
                fits++;
                first = first == NONE ? w : first;
                last = w;
            }
        }
        are("weights", all(x.weights(10, 0), x.weights(10, 1), x.weights(10, 2)), fits, first, last);
        is("the same again, and its contrary", x.seen(3, 10, 1) + x.seen(3, 10, 0), 5);
        are("no weights", all(x.weights(10, 0), x.weights(10, 1), x.weights(10, 2)), 0, NONE, NONE);
        are("up to six", all(x.seen(0, 11, 0), x.seen(0, 11, 0), x.seen(0, 11, 0), x.seen(0, 11, 0),
            x.seen(16, 11, 0), x.count(15)), 4, 5, 6, FULL, BAD, 6);
        are("wrong weights", all(x.weights(9, 0), x.weights(19, 0), x.weights(10, 3), x.weights(10, -1),
            x.weights(LOW, 0), x.weights(10, HIGH)), BAD, BAD, BAD, BAD, BAD, BAD);
        x.weigh(10, 9);
        is("observations outlast changes", x.count(15), 6);
        are("nothing else has changed", all(x.count(8), x.node(10, 0)), 2, 9);
        are("forget", all(x.forget(), x.forget(), x.weights(10, 0), x.count(15)), 6, 0, 41, 0);
        x.seen(0, 18, 1);
        x.seen(0, 10, 0);
        is("of other disks too", x.weights(10, 0) < 41 ? 1 : 0, 1);
    }

    private static void counting() {
        StrawMap x = new StrawMap();
        int[] due = {3, 5, 9, 3, 2, 0, 20, 0, 1, 1, 9, 0, 0, 0, 0, 0, 0};
        for (int what = 0; what < due.length; what++) {
            is("count " + what, x.count(what), due[what]);
        }
        are("wrong", all(x.count(-1), x.count(17), x.count(LOW), x.count(HIGH)), BAD, BAD, BAD, BAD);
        for (int d = 10; d <= 18; d++) {
            x.up(d, 0);
        }
        are("all down: all are waiting, none is lost", all(x.count(10), x.count(12), x.count(13), x.count(14)),
            0, 0, 16, 0);
        for (int d = 10; d <= 18; d++) {
            x.fail(d);
        }
        are("all failed", all(x.count(12), x.count(13), x.count(14)), 16, 16, 0);
        x.up(12, 1);
        are("a lost group is not incomplete", all(x.count(12), x.count(13), x.count(14), x.tick(8)), 16, 16, 0, 0);
        is("text", x.write('h') + x.count(16), 2);
    }

    private static void errorsChangeNothing() {
        StrawMap x = new StrawMap();
        x.weigh(0, 1);
        x.weigh(10, 4);
        x.reweigh(10, 16);
        x.refill();
        x.divert(0, 1, 2);
        x.lift(0);
        x.rule(9, 9, 9);
        x.rule(3, 2, 0);
        x.rack(9);
        x.disk(4, 41, 1);
        x.move(10, 4);
        x.back(1);
        x.back(7);
        x.put(0, 0);
        x.up(10, 1);
        x.fail(3);
        x.seen(0, 0, 0);
        x.lay();
        StrawMap y = new StrawMap();
        for (int what = 0; what <= 16; what++) {
            is("count " + what + " after errors", x.count(what), y.count(what));
        }
        for (int g = 0; g < 16; g++) {
            for (int c = 0; c < 4; c++) {
                is("copy after errors", x.place(g, c), y.place(g, c));
            }
        }
    }
}
