/** DATA, ERRORS, and promises 32 to 43: data, observations and numbers. */
final class DataSentences extends States {
    private static final int ALL = 65535;

    private DataSentences() {
    }

    static void test() {
        data();
        groupsOfData();
        copyings();
        ticks();
        errors();
        promise32();
        promise33();
        promise34();
        promise35();
        promise36();
        promise37();
        promise38();
        promise39();
        promise40();
        promise41();
        promise42();
        promise43();
    }

    private static void data() {
        in("DATA");
        says("DATA. Each disk is up or down; a new one is up.", () -> {
            StrawMap x = new StrawMap();
            is(x.count(10), 9);
            x.up(18, 0);
            x.disk(8, 1, 1);
            are(row(x.node(18, 6), x.node(19, 6), x.count(10)), 0, 1, 9);
        });
        says("Each group has a size, and is held by some disks.", () -> {
            StrawMap x = new StrawMap();
            x.put(keyOf(0), 99);
            are(row(x.held(0, 1), x.held(0, 0), x.held(1, 1)), 99, set(12, 18, 10), 0);
        });
        says("When a map is read, all disks are up,", () -> {
            StrawMap x = new StrawMap();
            x.up(10, 0);
            x.fail(11);
            lay(x, "h;r;d1,1;d1,1;");
            are(row(x.count(10), x.node(10, 6), x.node(11, 6)), 2, 1, 1);
            lay(x, FULL_TREE);
            is(x.count(10), 12);
        });
        says("all sizes are 0,", () -> {
            StrawMap x = new StrawMap();
            for (int g = 0; g < 16; g++) {
                is(x.held(g, 1), 0);
                x.put(keyOf(g), 99);
            }
            lay(x, "h;r;d1,1;");
            for (int g = 0; g < 16; g++) {
                is(x.held(g, 1), 0);
            }
        });
        says("and each group is held by all disks of its placement.", () -> {
            StrawMap x = new StrawMap();
            for (int g = 0; g < 16; g++) {
                is(x.held(g, 0), set(x.place(g, 0), x.place(g, 1), x.place(g, 2)));
            }
            StrawMap four = of(FOUR_ALIKE);
            is(four.held(7, 0), 15);
            StrawMap none = of("h;r;d0,9;");
            are(row(none.held(0, 0), none.held(15, 0), none.count(12), none.count(13), none.count(14)),
                0, 0, 16, 16, 0);
        });
        says("The load of a disk is the sum of the sizes of all groups that it holds.", () -> {
            StrawMap x = of("h;r;d9,9;c1,3,0;");
            is(x.load(10, 0), 0);
            for (int g = 0; g < 16; g++) {
                x.put(keyOf(g), 1 + g);
            }
            is(x.load(10, 0), 136);
            x.weigh(10, 0);
            is(x.load(10, 0), 136);
            x.up(10, 0);
            is(x.load(10, 0), 136);
            x.fail(10);
            is(x.load(10, 0), 0);
        });
    }

    private static void groupsOfData() {
        // In the first map group 0 is on 12, 18 and 10.
        says("A group is lost if no disk holds it,", () -> {
            StrawMap x = of(TWO_ALIKE);
            x.fail(10);
            is(x.count(12), 0);
            x.up(11, 0);
            is(x.count(12), 0);
            x.fail(11);
            is(x.count(12), 16);
            x.up(10, 1);
            is(x.count(12), 16);
        });
        says("waiting if no disk that is up holds it (also if it is lost),", () -> {
            StrawMap x = of(TWO_ALIKE);
            x.up(10, 0);
            is(x.count(13), 0);
            x.up(11, 0);
            are(row(x.count(13), x.count(12)), 16, 0);
            x.fail(10);
            x.fail(11);
            are(row(x.count(13), x.count(12)), 16, 16);
            x.up(10, 1);
            is(x.count(13), 16);
        });
        says("and incomplete if a disk that is up holds it, while another disk of its placement that is up does"
            + " not.", () -> {
            StrawMap x = of(TWO_ALIKE);
            is(x.count(14), 0);
            x.fail(10);
            is(x.count(14), 0);
            x.up(10, 1);
            is(x.count(14), 16);
            x.up(11, 0);
            is(x.count(14), 0);
            x.up(11, 1);
            x.up(10, 0);
            is(x.count(14), 0);
            // The disk that holds it need not be of its placement.
            StrawMap y = of("h;r;d9,9;d0,9;c1,3,0;");
            y.divert(0, 10, 11);
            is(y.count(14), 1);
            y.up(10, 0);
            is(y.count(14), 0);
            // A lost group is not incomplete.
            StrawMap z = of("h;r;d9,9;c1,3,0;");
            z.fail(10);
            z.up(10, 1);
            are(row(z.count(12), z.count(14)), 16, 0);
        });
    }

    private static void write(StrawMap x, int g, int size) {
        holds(x.put(keyOf(g), size) > 0);
    }

    private static void copyings() {
        says("A copying: of the incomplete groups, the one held by the fewest disks that are up is taken,", () -> {
            StrawMap x = of(FOUR_ALIKE);
            x.fail(10);
            x.up(10, 1);
            x.up(11, 0);
            write(x, 9, 50);
            x.up(11, 1);
            x.up(12, 0);
            write(x, 4, 1);
            x.up(12, 1);
            x.up(11, 0);
            // Both are held by two disks, but one of group 4's is down, and group 9 is greater.
            are(row(x.held(4, 0), x.held(9, 0), x.held(0, 0)), set(11, 13), set(12, 13), set(11, 12, 13));
            is(x.tick(1), 1);
            are(row(Integer.bitCount(x.held(4, 0)), x.held(9, 0), x.held(0, 0)), 3, set(12, 13), set(11, 12, 13));
        });
        says("of several the one with the greatest size,", () -> {
            StrawMap x = of(TWO_ALIKE);
            write(x, 3, 20);
            write(x, 8, 21);
            write(x, 12, 21);
            x.fail(10);
            x.up(10, 1);
            x.tick(1);
            are(row(x.held(3, 0), x.held(8, 0), x.held(12, 0), x.held(0, 0)), 2, 3, 2, 2);
            x.tick(1);
            are(row(x.held(3, 0), x.held(8, 0), x.held(12, 0), x.held(0, 0)), 2, 3, 3, 2);
            x.tick(1);
            are(row(x.held(3, 0), x.held(0, 0), x.held(1, 0)), 3, 2, 2);
        });
        says("of several the lowest;", () -> {
            StrawMap x = of(TWO_ALIKE);
            x.fail(10);
            x.up(10, 1);
            for (int g = 0; g < 16; g++) {
                are(row(x.held(g, 0), x.tick(1), x.held(g, 0), x.count(14)), 2, 1, 3, 15 - g);
            }
        });
        says("the first disk of its placement that is up and does not hold it holds it then.", () -> {
            StrawMap x = of(FOUR_ALIKE);
            int first = x.place(0, 0);
            int second = x.place(0, 1);
            int third = x.place(0, 2);
            int last = x.place(0, 3);
            x.fail(first);
            x.fail(third);
            x.fail(last);
            x.up(third, 1);
            x.up(last, 1);
            // The first is down, and the second holds it.
            x.tick(1);
            is(x.held(0, 0), set(second, third));
            StrawMap y = of(FOUR_ALIKE);
            y.fail(first);
            y.fail(last);
            y.up(first, 1);
            y.up(last, 1);
            y.tick(1);
            is(y.held(0, 0), set(first, second, third));
        });
    }

    private static void ticks() {
        says("A tick of m makes m copyings, but fewer if no group is incomplete any more.", () -> {
            StrawMap x = of(TWO_ALIKE);
            x.fail(10);
            x.up(10, 1);
            are(row(x.tick(1), x.count(14), x.tick(8), x.count(14), x.tick(6), x.count(14), x.tick(8), x.tick(1)),
                1, 15, 8, 7, 6, 1, 1, 0);
        });
        says("Then each group that all disks of its placement hold,", () -> {
            // Group 0 goes from disk 10 to disk 11, of the same weight 9.
            StrawMap x = of("h;r;d9,9;d0,9;d0,9;c1,3,0;");
            x.divert(0, 10, 11);
            x.up(11, 0);
            x.tick(8);
            is(x.held(0, 0), set(10));
            x.up(11, 1);
            x.tick(1);
            are(row(x.held(0, 0), x.held(1, 0)), set(11), set(10));
            // Two of three hold it: the spare one stays.
            StrawMap y = of(THREE_ALIKE);
            y.disk(4, 0, 9);
            y.divert(0, 10, 13);
            y.up(13, 0);
            y.tick(8);
            is(y.held(0, 0), set(10, 11, 12));
            y.up(13, 1);
            y.tick(1);
            is(y.held(0, 0), set(11, 12, 13));
        });
        says("if at least one of these is up,", () -> {
            StrawMap x = of("h;r;d9,9;d9,9;d9,9;c3,3,0;t24;");
            x.rule(2, 3, 0);
            int first = x.place(0, 0);
            int second = x.place(0, 1);
            x.up(first, 0);
            x.up(second, 0);
            x.tick(8);
            is(x.held(0, 0), set(10, 11, 12));
            x.up(second, 1);
            x.tick(8);
            is(x.held(0, 0), set(first, second));
            // Without a placement there is none that is up.
            StrawMap y = of("h;r;d9,9;c1,3,0;");
            y.weigh(10, 0);
            are(row(y.place(0, 0), y.tick(8), y.held(0, 0)), NONE, 0, set(10));
        });
        says("is held by just these disks.", () -> {
            StrawMap x = of(FOUR_ALIKE);
            x.rule(1, 3, 0);
            is(x.held(5, 0), 15);
            x.tick(1);
            for (int g = 0; g < 16; g++) {
                is(x.held(g, 0), bit(x.place(g, 0)));
            }
        });
        says("A disk fails: it is down then and holds nothing.", () -> {
            StrawMap x = of(TWO_ALIKE);
            x.fail(10);
            are(row(x.node(10, 6), x.held(0, 0), x.held(15, 0), x.groups(10)), 0, 2, 2, ALL);
            x.up(11, 0);
            x.fail(11);
            are(row(x.node(11, 6), x.held(0, 0), x.count(12)), 0, 0, 16);
        });
    }

    private static void errors() {
        in("ERRORS");
        says("ERRORS. A method reports an error by returning one of the following codes.", () ->
            are(row(StrawMap.BAD, StrawMap.NO, StrawMap.FULL, StrawMap.NONE), -1, -2, -3, -4));
        says("BAD: there is no such node, copy or override, a node is of a wrong sort, or another argument is outside"
            + " the range that its @param gives.", () -> {
            StrawMap x = new StrawMap();
            all(-1, x.node(9, 0), x.place(0, 4), x.override(0, 0), x.weigh(4, 1), x.rack(4), x.disk(1, 1, 1),
                x.tick(0));
        });
        says("NO: the call is not possible now, as the method says.", () -> {
            StrawMap x = new StrawMap();
            all(-2, x.lay(), x.weigh(10, 4), x.reweigh(10, 16), x.refill(), x.rule(3, 2, 0), x.move(10, 4), x.back(1),
                x.up(10, 1));
        });
        says("FULL: there is no room for one more.", () -> {
            StrawMap x = of(FULL_TREE);
            all(-3, x.rack(1), x.disk(4, 1, 1));
        });
        says("Each method lists its errors in the order in which it checks them and returns the first one that"
            + " applies.", () -> {
            StrawMap x = of(FULL_TREE);
            for (int g = 0; g < 6; g++) {
                x.divert(g, 10, 11);
                x.seen(g, 10, 1);
            }
            States.write(x, "t".repeat(200));
            all(BAD, x.write(31), x.rack(0), x.disk(3, 1, 1), x.divert(0, 10, 10), x.seen(16, 10, 1));
            all(NO, x.divert(0, 10, 11), x.divert(5, 10, 11));
            all(FULL, x.write('t'), x.rack(1), x.disk(4, 1, 1), x.divert(6, 10, 11), x.seen(0, 10, 1));
        });
        says("A call that returns an error changes nothing.", () -> {
            refuses(BAD, States::lived, x -> x.write(31), x -> x.node(-1, 0), x -> x.weigh(10, 41),
                x -> x.reweigh(10, 17), x -> x.divert(0, 10, 10), x -> x.lift(2), x -> x.rule(0, 1, 1),
                x -> x.rack(0), x -> x.disk(4, 41, 1), x -> x.move(1, 0), x -> x.back(9), x -> x.put(0, 100),
                x -> x.tick(9), x -> x.up(10, 2), x -> x.fail(9), x -> x.seen(0, 9, 1), x -> x.storm(0, 31, 0),
                x -> x.weights(10, 3));
            refuses(NO, States::lived, StrawMap::lay, x -> x.weigh(10, 7), x -> x.reweigh(14, 9),
                x -> x.divert(5, 17, 18), x -> x.rule(3, 2, 0), x -> x.move(11, 6), x -> x.back(8), x -> x.up(11, 0));
        });
        says("NONE is not an error; it means \"there is none\" and is returned only if no error applies.", () -> {
            StrawMap x = of("h;r;d0,9;");
            x.reweigh(10, 0);
            all(NONE, x.node(0, 1), x.place(0, 0), x.chosen(0, 0, 0), x.share(0, 0), x.old(3, 0, 0), x.since(3, 0),
                x.least(10, 16), x.even(0), x.held(0, 2));
            all(BAD, x.node(1, 3), x.place(0, 4), x.chosen(0, 0, 10), x.share(0, 2), x.old(3, 0, 4), x.since(3, 3),
                x.least(10, 17), x.even(3), x.held(0, 3), x.weights(10, 3));
        });
        says("Sets are returned as bit masks: bit g for group g, bit d - 10 for disk d.", () -> {
            StrawMap x = of("h;r;" + "d0,9;".repeat(11) + "d1,9;c1,3,0;");
            are(row(x.groups(21), x.held(0, 0)), 65535, 1 << 11);
            x.weigh(10, 1);
            x.weigh(21, 0);
            x.tick(8);
            x.tick(8);
            are(row(x.groups(10), x.held(15, 0), x.loses(10, 10)), 65535, 1, 65535);
            StrawMap y = new StrawMap();
            y.divert(0, 12, 13);
            is(y.since(1, 2), 65535 - 1);
            y.lift(0);
            y.divert(15, 12, 13);
            is(y.since(1, 2), 65535 - 32768);
        });
    }

    private static void promise32() {
        in("Promise 32");
        says("Writes data: the size of the group of a key grows,", () -> {
            StrawMap x = new StrawMap();
            are(row(x.put(keyOf(5), 1), x.put(keyOf(5), 99), x.held(5, 1), x.held(4, 1), x.held(6, 1)),
                1, 100, 100, 0, 0);
        });
        says("and disks that are down do not hold this group any more.", () -> {
            StrawMap x = of(THREE_ALIKE);
            x.up(10, 0);
            is(x.held(0, 0), 7);
            x.put(keyOf(0), 1);
            are(row(x.held(0, 0), x.held(1, 0)), 6, 7);
            x.up(10, 1);
            is(x.held(0, 0), 6);
            // Also one that is not of its placement.
            StrawMap y = of("h;r;d9,9;d9,9;d9,9;c3,3,0;t24;");
            y.rule(2, 3, 0);
            int third = 33 - y.place(0, 0) - y.place(0, 1);
            y.up(third, 0);
            is(y.held(0, 0), 7);
            y.put(keyOf(0), 1);
            is(y.held(0, 0), 7 - bit(third));
        });
        says("`k`: the key, 0 to 9999", () -> {
            refusesAll(BAD, States::lived, new int[] {LOW, -1, 10000, HIGH}, (x, k) -> x.put(k, 1));
            StrawMap x = new StrawMap();
            are(row(x.put(0, 1), x.put(9999, 2), x.held(0, 1), x.held(9, 1)), 1, 2, 1, 2);
        });
        says("`size`: by how much, 1 to 99", () -> {
            refusesAll(BAD, States::lived, new int[] {LOW, -1, 0, 100, HIGH}, (x, size) -> x.put(keyOf(6), size));
            StrawMap x = new StrawMap();
            are(row(x.put(0, 1), x.put(0, 99)), 1, 100);
        });
        says("Returns the size of the group then;", () -> {
            StrawMap x = new StrawMap();
            for (int i = 1; i <= 101; i++) {
                is(x.put(0, 99), 99 * i);
            }
        });
        says("errors: BAD; NO if no disk of its placement that is up holds the group;", () -> {
            // Group 0 is on 12, 18 and 10.
            State down = x -> {
                lived(x);
                for (int d = 10; d <= 18; d++) {
                    x.up(d, 0);
                }
            };
            refuses(NO, down, x -> x.put(0, 1), x -> x.put(9999, 99));
            refuses(BAD, down, x -> x.put(0, 0), x -> x.put(0, 100), x -> x.put(10000, 1));
            StrawMap x = new StrawMap();
            x.up(12, 0);
            x.up(18, 0);
            is(x.put(0, 1), 1);
            x.up(10, 0);
            is(x.put(0, 1), NO);
            x.up(12, 1);
            // 12 is up, but does not hold it any more.
            is(x.put(0, 1), NO);
            refuses(NO, y -> lay(y, "h;r;d0,9;"), y -> y.put(0, 1));
            // It is held by a disk that is up, but not of its placement.
            refuses(NO, y -> {
                lay(y, "h;r;d9,9;d0,9;c1,3,0;");
                y.divert(0, 10, 11);
            }, y -> y.put(0, 1));
        });
        says("FULL if its size would be above 9999.", () -> {
            State most = x -> {
                for (int i = 1; i <= 101; i++) {
                    x.put(0, 99);
                }
                is(x.held(0, 1), 9999);
                x.up(12, 0);
            };
            refuses(FULL, most, x -> x.put(0, 1), x -> x.put(0, 99));
            refuses(BAD, most, x -> x.put(0, 0), x -> x.put(0, 100));
            StrawMap x = new StrawMap();
            for (int i = 1; i <= 100; i++) {
                x.put(0, 99);
            }
            are(row(x.put(0, 98), x.put(0, 2), x.put(0, 1), x.put(0, 1), x.put(keyOf(1), 99)),
                9998, FULL, 9999, FULL, 99);
            refuses(NO, y -> {
                most.set(y);
                y.up(18, 0);
                y.up(10, 0);
            }, y -> y.put(0, 1));
        });
    }

    private static void promise33() {
        in("Promise 33");
        says("Makes a tick.", () -> {
            StrawMap x = of(TWO_ALIKE);
            x.fail(11);
            x.up(11, 1);
            x.tick(3);
            are(row(x.held(0, 0), x.held(1, 0), x.held(2, 0), x.held(3, 0), x.count(8)), 3, 3, 3, 1, 1);
        });
        says("`m`: 1 to 8", () -> {
            refusesAll(BAD, States::lived, new int[] {LOW, -1, 0, 9, HIGH}, StrawMap::tick);
            StrawMap x = of(TWO_ALIKE);
            x.fail(11);
            x.up(11, 1);
            are(row(x.tick(1), x.tick(8)), 1, 8);
        });
        says("Returns how many copyings were made; errors: BAD.", () -> {
            StrawMap x = of(TWO_ALIKE);
            is(x.tick(8), 0);
            x.fail(11);
            is(x.tick(8), 0);
            x.up(11, 1);
            are(row(x.tick(8), x.tick(7), x.tick(2), x.tick(1), x.tick(9)), 8, 7, 1, 0, BAD);
        });
    }

    private static void promise34() {
        in("Promise 34");
        says("Sets whether a disk is up.", () -> {
            StrawMap x = new StrawMap();
            x.up(10, 0);
            are(row(x.node(10, 6), x.node(11, 6)), 0, 1);
            x.up(10, 1);
            is(x.node(10, 6), 1);
        });
        says("What it holds stays.", () -> {
            StrawMap x = new StrawMap();
            x.put(0, 7);
            x.up(10, 0);
            are(row(x.held(0, 0), x.load(10, 0)), set(12, 18, 10), 7);
            x.up(10, 1);
            are(row(x.held(0, 0), x.load(10, 0), x.count(8)), set(12, 18, 10), 7, 1);
            x.fail(10);
            x.up(10, 1);
            is(x.held(0, 0), set(12, 18));
        });
        says("`d`: a disk", () -> {
            refusesAll(BAD, States::lived, NO_DISKS, (x, d) -> x.up(d, 0));
            refusesAll(BAD, States::lived, NO_DISKS, (x, d) -> x.up(d, 1));
            StrawMap x = of(FULL_TREE);
            are(row(x.up(10, 0), x.up(21, 0), x.up(22, 0), x.up(9, 0)), 11, 10, BAD, BAD);
        });
        says("`is`: 1 up; 0 down", () -> {
            refusesAll(BAD, States::lived, new int[] {LOW, -1, 2, HIGH}, (x, is) -> x.up(10, is));
            refusesAll(BAD, States::lived, new int[] {LOW, -1, 2, HIGH}, (x, is) -> x.up(11, is));
            StrawMap x = new StrawMap();
            are(row(x.up(10, 0), x.node(10, 6), x.up(10, 1), x.node(10, 6)), 8, 0, 9, 1);
        });
        says("Returns how many disks are up then;", () -> {
            StrawMap x = of(TWO_ALIKE);
            are(row(x.up(10, 0), x.up(11, 0), x.up(11, 1), x.up(10, 1)), 1, 0, 1, 2);
            is(of(FULL_TREE).up(21, 0), 11);
        });
        says("errors: BAD; NO if this is so already.", () -> {
            refuses(NO, States::lived, x -> x.up(10, 1), x -> x.up(11, 0), x -> x.up(18, 1));
            StrawMap x = new StrawMap();
            x.fail(10);
            are(row(x.up(10, 0), x.up(10, 1), x.up(10, 1), x.up(10, 2), x.up(9, 1)), NO, 9, NO, BAD, BAD);
        });
    }

    private static void promise35() {
        in("Promise 35");
        says("Lets a disk fail.", () -> {
            StrawMap x = new StrawMap();
            x.fail(18);
            are(row(x.node(18, 6), x.held(0, 0), x.count(10), x.count(8), x.place(0, 1)), 0, set(12, 10), 8, 1, 18);
        });
        says("`d`: a disk", () -> {
            refusesAll(BAD, States::lived, NO_DISKS, StrawMap::fail);
            StrawMap x = of(FULL_TREE);
            holds(x.fail(10) >= 0 && x.fail(21) >= 0);
            are(row(x.fail(22), x.fail(9), x.count(10)), BAD, BAD, 10);
        });
        says("Returns how many groups it held; errors: BAD.", () -> {
            StrawMap x = of(TWO_ALIKE);
            are(row(x.fail(10), x.fail(10), x.up(11, 0), x.fail(11), x.fail(11), x.fail(12)), 16, 0, 0, 16, 0, BAD);
            StrawMap y = of("h;r;d9,9;d0,9;c1,3,0;");
            y.divert(0, 10, 11);
            are(row(y.fail(11), y.fail(10)), 0, 16);
        });
    }

    private static void promise36() {
        in("Promise 36");
        says("Returns a property of a group.", () ->
            changesNothing(States::lived, x -> x.held(0, 0), x -> x.held(0, 1), x -> x.held(0, 2)));
        says("`g`: a group, 0 to 15", () -> {
            refusesAll(BAD, States::lived, NO_GROUPS, (x, g) -> x.held(g, 0));
            refusesAll(BAD, States::lived, NO_GROUPS, (x, g) -> x.held(g, 2));
            StrawMap x = new StrawMap();
            are(row(x.held(0, 0), x.held(15, 0)), set(12, 18, 10), set(12, 14, 18));
        });
        says("`what`: 0 the set of the disks that hold it;", () -> {
            StrawMap x = of("h;r;" + "d0,9;".repeat(11) + "d1,9;c1,3,0;");
            is(x.held(0, 0), set(21));
            x.fail(21);
            is(x.held(0, 0), 0);
        });
        says("1 its size;", () -> {
            StrawMap x = new StrawMap();
            is(x.held(15, 1), 0);
            for (int i = 0; i < 101; i++) {
                x.put(keyOf(15), 99);
            }
            is(x.held(15, 1), 9999);
        });
        says("2 the disk that serves it: the first disk of its placement that is up and holds it,", () -> {
            StrawMap x = new StrawMap();
            is(x.held(0, 2), 12);
            x.up(12, 0);
            is(x.held(0, 2), 18);
            x.fail(18);
            x.up(18, 1);
            is(x.held(0, 2), 10);
            x.up(12, 1);
            is(x.held(0, 2), 12);
        });
        says("or, if there is none, the lowest disk that is up and holds it", () -> {
            StrawMap x = new StrawMap();
            x.divert(0, 12, 13);
            x.rule(1, 2, 0);
            // Group 0 is to be on 13 alone and is held by 10, 12 and 18.
            are(row(x.place(0, 0), x.held(0, 0), x.held(0, 2)), 13, set(10, 12, 18), 10);
            x.up(10, 0);
            is(x.held(0, 2), 12);
            x.fail(12);
            is(x.held(0, 2), 18);
        });
        says("Returns it; NONE for what = 2 if the group is waiting; errors: BAD.", () -> {
            StrawMap x = of(TWO_ALIKE);
            x.up(10, 0);
            x.up(11, 0);
            are(row(x.held(0, 2), x.held(0, 0), x.held(0, 1)), NONE, 3, 0);
            x.fail(10);
            x.fail(11);
            are(row(x.held(0, 2), x.held(0, 0), x.held(0, 1)), NONE, 0, 0);
            all(BAD, x.held(0, -1), x.held(0, 3), x.held(0, LOW), x.held(0, HIGH), x.held(16, 2), x.held(-1, 2));
            x.up(10, 1);
            is(x.held(0, 2), NONE);
        });
    }

    private static void promise37() {
        in("Promise 37");
        says("Returns a sum of sizes for a disk.", () -> {
            StrawMap x = of("h;r;d9,9;c1,3,0;");
            are(row(x.load(10, 0), x.load(10, 1)), 0, 0);
            x.put(keyOf(0), 99);
            x.put(keyOf(15), 1);
            are(row(x.load(10, 0), x.load(10, 1)), 100, 100);
        });
        says("`d`: a disk", () -> {
            refusesAll(BAD, States::lived, NO_DISKS, (x, d) -> x.load(d, 0));
            refusesAll(BAD, States::lived, NO_DISKS, (x, d) -> x.load(d, 1));
            StrawMap x = of(FULL_TREE);
            are(row(x.load(10, 0), x.load(21, 1), x.load(22, 0), x.load(9, 0)), 0, 0, BAD, BAD);
        });
        says("`what`: 0 for its load;", () -> {
            StrawMap x = new StrawMap();
            x.put(0, 50);
            x.fail(12);
            x.reweigh(10, 0);
            are(row(x.load(12, 0), x.load(10, 0), x.load(11, 0)), 0, 50, 0);
        });
        says("1 for the sum of the sizes of all groups that have it in their placement", () -> {
            StrawMap x = new StrawMap();
            x.put(0, 50);
            x.fail(12);
            x.reweigh(10, 0);
            are(row(x.load(12, 1), x.load(10, 1), x.load(11, 1)), 50, 0, (x.groups(11) & 1) * 50);
            x.divert(0, 12, 13);
            are(row(x.load(12, 1), x.load(13, 1), x.load(13, 0)), 0, 50, 0);
        });
        says("Returns it; errors: BAD.", () ->
            refusesAll(BAD, States::lived, new int[] {LOW, -1, 2, HIGH}, (x, what) -> x.load(10, what)));
    }

    private static void promise38() {
        in("Promise 38");
        says("Finds the groups that are held by at least one disk,", () -> {
            StrawMap x = of(TWO_ALIKE);
            is(x.loses(0, 0), ALL);
            x.fail(10);
            x.up(11, 0);
            is(x.loses(0, 0), ALL);
            x.fail(11);
            all(0, x.loses(0, 0), x.loses(10, 11), x.loses(10, 10));
        });
        says("and only by disks that are one of two nodes or below one of them.", () -> {
            StrawMap x = of("h;r;d9,9;d9,9;r;d9,9;h;r;d9,9;c1,3,0;");
            for (int n = 0; n <= 13; n++) {
                for (int m = 0; m <= 13; m++) {
                    boolean nodes = x.groups(n) >= 0 && x.groups(m) >= 0;
                    if (nodes && (n + m) % 3 == 0) {
                        is(x.loses(n, m), x.groups(n) | x.groups(m));
                    }
                }
            }
            StrawMap y = of(TWO_ALIKE);
            are(row(y.loses(10, 10), y.loses(11, 11), y.loses(10, 11), y.loses(11, 10), y.loses(4, 4), y.loses(1, 10)),
                0, 0, ALL, ALL, ALL, ALL);
        });
        says("`n`: a node", () -> {
            refusesAll(BAD, States::lived, NO_NODES, (x, n) -> x.loses(n, 0));
            StrawMap x = of(FULL_TREE);
            for (int n = 0; n <= 21; n++) {
                holds(x.loses(n, 0) == ALL);
            }
            all(BAD, x.loses(22, 0), x.loses(-1, 0));
        });
        says("`m`: a node, also the same", () -> {
            refusesAll(BAD, States::lived, NO_NODES, (x, m) -> x.loses(0, m));
            StrawMap x = of(FULL_TREE);
            for (int n = 0; n <= 21; n++) {
                holds(x.loses(0, n) == ALL && x.loses(n, n) >= 0);
            }
            all(BAD, x.loses(0, 22), x.loses(0, -1), x.loses(22, 22));
        });
        says("Returns the set of these groups; errors: BAD.", () -> {
            StrawMap x = of("h;r;d9,9;c1,3,0;");
            are(row(x.loses(10, 10), x.loses(10, 11), x.loses(2, 10)), ALL, BAD, BAD);
        });
    }

    /** Does what a storm simulates; returns how many copyings there were. */
    private static int storm(StrawMap y, int z, int n) {
        int copyings = 0;
        int disks = y.count(2);
        for (int k = 0; k < n; k++) {
            long x = (7919L * z + 6151L * k + 1) % 65521;
            int v = (int) (x * x % 65521);
            if (v / 16 % 4 == 0) {
                y.fail(10 + v % disks);
            } else if (v / 16 % 4 == 1) {
                y.up(10 + v % disks, 1);
            }
            copyings += y.tick(2);
        }
        return copyings;
    }

    private static void stormsAlike(State state, int z, int n) {
        StrawMap x = new StrawMap();
        StrawMap y = new StrawMap();
        state.set(x);
        state.set(y);
        int copyings = storm(y, z, n);
        are(row(x.storm(z, n, 0), x.storm(z, n, 1), x.storm(z, n, 2)), y.count(12), copyings, y.count(10));
    }

    /** The v of a storm. */
    private static int blow(int z, int k) {
        long x = (7919L * z + 6151L * k + 1) % 65521;
        return (int) (x * x % 65521);
    }

    private static void promise39() {
        in("Promise 39");
        says("Simulates failures from the present state.", () -> {
            stormsAlike(States::fresh, 9, 12);
            stormsAlike(States::lived, 9, 12);
            stormsAlike(x -> {
                lay(x, FULL_TREE);
                x.fail(10);
                x.up(15, 0);
            }, 77, 30);
        });
        says("For each k from 0 to n - 1: let x = 7919 * z + 6151 * k + 1", () -> {
            for (int n = 1; n <= 30; n++) {
                stormsAlike(States::fresh, 5, n);
            }
        });
        says("and v = (x * x) modulo 65521 (computed without overflow).", () -> {
            for (int z = 9999; z > 9960; z--) {
                stormsAlike(States::fresh, z, 30);
            }
        });
        says("Let d be disk 10 + v modulo (number of disks).", () -> {
            for (int z = 0; z < 30; z++) {
                stormsAlike(x -> lay(x, "h;r;d9,9;c1,3,0;"), z, 5);
                stormsAlike(x -> lay(x, FULL_TREE), z, 20);
            }
        });
        says("If (v / 16, rounded down) modulo 4 is 0, d fails;", () -> {
            // A single disk, which may already be down.
            int failing = 0;
            for (int z = 0; z < 40; z++) {
                StrawMap x = of("h;r;d9,9;c1,3,0;");
                boolean fails = blow(z, 0) / 16 % 4 == 0;
                are(row(x.storm(z, 1, 0), x.storm(z, 1, 2)), fails ? 16 : 0, fails ? 0 : 1);
                x.up(10, 0);
                is(x.storm(z, 1, 0), fails ? 16 : 0);
                failing += fails ? 1 : 0;
            }
            holds(failing > 0 && failing < 40);
        });
        says("if it is 1, d is up then.", () -> {
            int rising = 0;
            for (int z = 0; z < 40; z++) {
                StrawMap x = of("h;r;d9,9;c1,3,0;");
                x.up(10, 0);
                boolean rises = blow(z, 0) / 16 % 4 == 1;
                is(x.storm(z, 1, 2), rises ? 1 : 0);
                rising += rises ? 1 : 0;
            }
            holds(rising > 0 && rising < 40);
        });
        says("Then a tick of 2 is made.", () -> {
            int quiet = 0;
            while (blow(quiet, 0) / 16 % 4 < 2 || blow(quiet, 1) / 16 % 4 < 2) {
                quiet++;
            }
            StrawMap x = of(TWO_ALIKE);
            x.fail(10);
            x.up(10, 1);
            are(row(x.storm(quiet, 1, 1), x.storm(quiet, 2, 1)), 2, 4);
            x.tick(8);
            x.tick(5);
            are(row(x.storm(quiet, 1, 1), x.storm(quiet, 2, 1)), 2, 3);
        });
        says("Nothing changes.", () ->
            changesNothing(States::lived, x -> x.storm(9, 30, 0), x -> x.storm(0, 30, 1), x -> x.storm(9999, 30, 2)));
        says("`z`: 0 to 9999", () -> {
            refusesAll(BAD, States::lived, new int[] {LOW, -1, 10000, HIGH}, (x, z) -> x.storm(z, 1, 0));
            stormsAlike(States::lived, 0, 30);
            stormsAlike(States::lived, 9999, 30);
        });
        says("`n`: 1 to 30", () -> {
            refusesAll(BAD, States::lived, new int[] {LOW, -1, 0, 31, HIGH}, (x, n) -> x.storm(0, n, 0));
            stormsAlike(States::lived, 1, 1);
            stormsAlike(States::lived, 1, 30);
        });
        says("`what`: 0 for the number of groups that are lost at the end;", () -> {
            int lost = 0;
            for (int z = 0; z < 20; z++) {
                stormsAlike(x -> lay(x, "h;r;d9,9;d9,9;c2,3,0;"), z, 30);
                lost = Math.max(lost, of("h;r;d9,9;d9,9;c2,3,0;").storm(z, 30, 0));
            }
            is(lost, 16);
        });
        says("1 for the number of all copyings;", () -> {
            int most = 0;
            for (int z = 0; z < 20; z++) {
                stormsAlike(States::fresh, z, 30);
                most = Math.max(most, new StrawMap().storm(z, 30, 1));
            }
            holds(most > 2);
        });
        says("2 for the number of disks that are up at the end", () -> {
            for (int z = 0; z < 20; z++) {
                stormsAlike(x -> lay(x, FULL_TREE), z, 30);
            }
        });
        says("Returns it; errors: BAD.", () ->
            refusesAll(BAD, States::lived, new int[] {LOW, -1, 3, HIGH}, (x, what) -> x.storm(0, 1, what)));
    }

    private static void promise40() {
        in("Promise 40");
        says("Adds an observation: a group has a disk in its placement, or has not.", () -> {
            StrawMap x = new StrawMap();
            x.seen(0, 10, 1);
            x.seen(0, 11, 0);
            holds(x.weights(18, 0) > 0 && x.weights(18, 0) <= 41);
            x.seen(0, 11, 1);
            is(x.weights(18, 0), 0);
        });
        says("`g`: a group, 0 to 15", () -> {
            refusesAll(BAD, States::lived, NO_GROUPS, (x, g) -> x.seen(g, 10, 1));
            StrawMap x = new StrawMap();
            are(row(x.seen(0, 10, 1), x.seen(15, 10, 1)), 1, 2);
        });
        says("`d`: a disk", () -> {
            refusesAll(BAD, States::lived, NO_DISKS, (x, d) -> x.seen(0, d, 1));
            StrawMap x = of(FULL_TREE);
            are(row(x.seen(0, 10, 1), x.seen(0, 21, 1), x.seen(0, 22, 1), x.seen(0, 9, 1)), 1, 2, BAD, BAD);
        });
        says("`is`: 1 if it has, 0 if not", () -> {
            refusesAll(BAD, States::lived, new int[] {LOW, -1, 2, HIGH}, (x, is) -> x.seen(0, 10, is));
            StrawMap has = of("h;r;d9,9;c1,3,0;");
            has.seen(0, 10, 1);
            are(row(has.weights(10, 0), has.weights(10, 1), has.weights(10, 2)), 40, 1, 40);
            StrawMap not = of("h;r;d9,9;c1,3,0;");
            not.seen(0, 10, 0);
            are(row(not.weights(10, 0), not.weights(10, 1), not.weights(10, 2)), 1, 0, 0);
        });
        says("Returns how many observations there are then;", () -> {
            StrawMap x = new StrawMap();
            for (int i = 1; i <= 6; i++) {
                is(x.seen(0, 10, 1), i);
            }
        });
        says("errors: BAD; FULL if there are 6.", () -> {
            State full = x -> {
                lived(x);
                for (int i = 3; i <= 6; i++) {
                    is(x.seen(i, 12, 0), i);
                }
            };
            refuses(FULL, full, x -> x.seen(0, 10, 1), x -> x.seen(15, 18, 0), x -> x.seen(3, 14, 1));
            refuses(BAD, full, x -> x.seen(16, 10, 1), x -> x.seen(0, 9, 1), x -> x.seen(0, 10, 2),
                x -> x.seen(-1, 10, 1));
            StrawMap x = new StrawMap();
            full.set(x);
            are(row(x.forget(), x.seen(0, 10, 1)), 6, 1);
        });
    }

    private static void promise41() {
        in("Promise 41");
        says("Removes all observations.", () -> {
            StrawMap x = of("h;r;d9,9;c1,3,0;");
            x.seen(0, 10, 1);
            x.seen(0, 10, 0);
            are(row(x.weights(10, 0), x.forget(), x.count(15), x.weights(10, 0)), 0, 2, 0, 41);
            alike(States::fresh, y -> {
                y.seen(0, 10, 1);
                y.forget();
            });
        });
        says("Returns how many there were.", () -> {
            StrawMap x = new StrawMap();
            is(x.forget(), 0);
            for (int i = 0; i < 8; i++) {
                x.seen(i, 10, 1);
            }
            are(row(x.forget(), x.forget()), 6, 0);
        });
    }

    /** The groups of disk 10 if it has this weight in the first map. */
    private static int groupsWith(int weight) {
        StrawMap x = new StrawMap();
        x.weigh(10, weight);
        return x.groups(10);
    }

    private static void promise42() {
        in("Promise 42");
        says("Finds the weights of a disk, 0 to 40, with which, in place of its own one, all observations would be"
            + " true", () -> {
            StrawMap x = of("h;r;d20,9;d20,9;c1,3,0;");
            is(x.weights(10, 0), 41);
            x.seen(3, 10, 1);
            x.seen(4, 11, 1);
            int many = 0;
            int first = NONE;
            int last = NONE;
            for (int w = 0; w <= 40; w++) {
                StrawMap y = of("h;r;d20,9;d20,9;c1,3,0;");
                y.weigh(10, w);
                if (y.place(3, 0) == 10 && y.place(4, 0) == 11) {
                    many++;
                    first = first == NONE ? w : first;
                    last = w;
                }
            }
            are(row(x.weights(10, 0), x.weights(10, 1), x.weights(10, 2)), many, first, last);
            holds(many > 0 && many < 41);
        });
        says("in place of its own one, all observations would be true", () -> {
            // The weights of its rack and its hall follow that of the disk.
            for (int own : new int[] {0, 1, 7, 40}) {
                StrawMap x = new StrawMap();
                int seen = groupsWith(own) & 63;
                for (int g = 0; g < 6; g++) {
                    x.seen(g, 10, seen >> g & 1);
                }
                int many = 0;
                int last = NONE;
                for (int w = 0; w <= 40; w++) {
                    boolean fits = (groupsWith(w) & 63) == seen;
                    many += fits ? 1 : 0;
                    last = fits ? w : last;
                }
                are(row(x.weights(10, 0), x.weights(10, 2)), many, last);
                holds(x.weights(10, 1) <= own && last >= own);
            }
        });
        says("(everything else being the same).", () -> {
            StrawMap x = of("h;r;d9,9;d0,9;c1,3,0;");
            x.divert(0, 10, 11);
            x.seen(0, 11, 1);
            // The override needs disk 10 to have weight.
            are(row(x.weights(10, 0), x.weights(10, 1), x.weights(10, 2), x.weights(11, 0)), 40, 1, 40, 41);
            x.reweigh(11, 0);
            all(0, x.weights(10, 0), x.weights(11, 0));
            changesNothing(States::lived, y -> y.weights(10, 0), y -> y.weights(18, 2));
        });
        says("`d`: a disk", () -> {
            refusesAll(BAD, States::lived, NO_DISKS, (x, d) -> x.weights(d, 0));
            StrawMap x = of(FULL_TREE);
            are(row(x.weights(10, 0), x.weights(21, 0), x.weights(22, 0), x.weights(9, 0)), 41, 41, BAD, BAD);
        });
        says("`what`: 0 for how many there are;", () -> {
            StrawMap x = of("h;r;d9,9;c1,3,0;");
            is(x.weights(10, 0), 41);
            x.seen(0, 10, 1);
            is(x.weights(10, 0), 40);
            x.seen(0, 10, 0);
            is(x.weights(10, 0), 0);
        });
        says("1 for the smallest one;", () -> {
            StrawMap x = of("h;r;d9,9;c1,3,0;");
            is(x.weights(10, 1), 0);
            x.seen(0, 10, 1);
            is(x.weights(10, 1), 1);
        });
        says("2 for the greatest one", () -> {
            StrawMap x = of("h;r;d9,9;c1,3,0;");
            is(x.weights(10, 2), 40);
            x.seen(0, 10, 0);
            is(x.weights(10, 2), 0);
        });
        says("Returns it; NONE for what = 1 and 2 if there are none; errors: BAD.", () -> {
            StrawMap x = of("h;r;d9,9;c1,3,0;");
            x.seen(0, 10, 1);
            x.seen(0, 10, 0);
            are(row(x.weights(10, 0), x.weights(10, 1), x.weights(10, 2)), 0, NONE, NONE);
            all(BAD, x.weights(10, -1), x.weights(10, 3), x.weights(10, LOW), x.weights(10, HIGH), x.weights(11, 1));
        });
    }

    private static void promise43() {
        in("Promise 43");
        says("Returns one of several numbers.", () ->
            changesNothing(States::lived, x -> x.count(0), x -> x.count(14), x -> x.count(16)));
        says("`what`: 0 halls; 1 racks; 2 disks;", () -> {
            StrawMap x = of("h;r;d0,0;");
            are(row(x.count(0), x.count(1), x.count(2)), 1, 1, 1);
            StrawMap y = of(FULL_TREE);
            are(row(y.count(0), y.count(1), y.count(2)), 3, 6, 12);
        });
        says("3 copies N; 4 the level L; 5 the mode; 6 tries;", () -> {
            StrawMap x = of("h;r;d0,0;c1,1,0;t1;");
            are(row(x.count(3), x.count(4), x.count(5), x.count(6)), 1, 1, 0, 1);
            StrawMap y = of("h;r;d0,0;c4,3,1;t24;");
            are(row(y.count(3), y.count(4), y.count(5), y.count(6)), 4, 3, 1, 24);
        });
        says("7 overrides;", () -> {
            StrawMap x = new StrawMap();
            is(x.count(7), 0);
            for (int g = 0; g < 7; g++) {
                x.divert(g, 10, 11);
            }
            is(x.count(7), 6);
        });
        says("8 the epoch; 9 known epochs;", () -> {
            StrawMap x = new StrawMap();
            for (int epoch = 1; epoch <= 7; epoch++) {
                are(row(x.count(8), x.count(9)), epoch, Math.min(epoch, 5));
                x.weigh(10, 10 + epoch);
            }
        });
        says("10 disks that are up;", () -> {
            StrawMap x = of(TWO_ALIKE);
            is(x.count(10), 2);
            x.up(10, 0);
            x.fail(11);
            is(x.count(10), 0);
            is(of(FULL_TREE).count(10), 12);
        });
        says("11 full disks;", () -> {
            StrawMap x = of("h;r;" + "d1,0;".repeat(12));
            is(x.count(11), 0);
            x.refill();
            is(x.count(11), 12);
        });
        says("12 groups that are lost; 13 groups that are waiting; 14 groups that are incomplete;", () -> {
            StrawMap x = of(TWO_ALIKE);
            are(row(x.count(12), x.count(13), x.count(14)), 0, 0, 0);
            x.fail(10);
            x.up(10, 1);
            are(row(x.count(12), x.count(13), x.count(14)), 0, 0, 16);
            x.tick(4);
            is(x.count(14), 12);
            x.up(11, 0);
            are(row(x.count(12), x.count(13), x.count(14)), 0, 12, 0);
            x.fail(11);
            are(row(x.count(12), x.count(13), x.count(14)), 12, 12, 0);
            x.fail(10);
            are(row(x.count(12), x.count(13), x.count(14)), 16, 16, 0);
        });
        says("15 observations;", () -> {
            StrawMap x = new StrawMap();
            is(x.count(15), 0);
            for (int g = 0; g < 7; g++) {
                x.seen(g, 10, 1);
            }
            is(x.count(15), 6);
        });
        says("16 characters of the text", () -> {
            StrawMap x = new StrawMap();
            is(x.count(16), 0);
            States.write(x, "h".repeat(201));
            is(x.count(16), 200);
            x.wipe();
            is(x.count(16), 0);
        });
        says("Returns it; errors: BAD.", () ->
            refusesAll(BAD, States::lived, new int[] {LOW, -1, 17, HIGH}, StrawMap::count));
    }
}
