/** STRAWS, PLACEMENT, EPOCHS, and promises 18 to 31: straws, placements and other maps. */
final class PlacementSentences extends States {
    /** Only disk 13 has weight; its draws modulo 16 go from 0 to 15. */
    private static final String ONLY_13 = "h;r;d0,9;d0,9;d0,9;d9,9;c1,3,0;";

    private PlacementSentences() {
    }

    static void test() {
        straws();
        wants();
        choices();
        acceptable();
        rules();
        overrides();
        epochs();
        promise18();
        promise19();
        promise20();
        promise21();
        promise22();
        promise23();
        promise24();
        promise25();
        promise26();
        promise27();
        promise28();
        promise29();
        promise30();
        promise31();
    }

    private static void straws() {
        in("STRAWS");
        says("STRAWS. There are the groups 0 to 15.", () -> {
            StrawMap x = of("h;r;d1,1;c1,3,0;");
            for (int g = 0; g <= 15; g++) {
                is(x.place(g, 0), 10);
            }
            are(row(x.groups(0), x.place(-1, 0), x.place(16, 0)), 65535, BAD, BAD);
        });
        says("The group of a key k (0 to 9999) is ((7919 * k) modulo 65521) modulo 16.", () -> {
            StrawMap x = new StrawMap();
            // 7919 * 8 is the last one below 65521.
            are(row(x.group(0), x.group(8), x.group(9), x.group(9999)), 0, 63352 % 16, (71271 - 65521) % 16, 9);
            for (int from = 0; from < 10000; from += 500) {
                StrawMap y = new StrawMap();
                for (int k = from; k < from + 500; k++) {
                    is(y.group(k), groupOf(k));
                }
            }
        });
        says("draw(g, n, t) of a group g, a node n and a number t is 1 + ((y * y * y) modulo 65521), with y = 7919 * g"
            + " + 613 * n + 4093 * t + 1.", () -> {
            is(new StrawMap().draw(0, 0, 0), 2);
            for (int g = 0; g < 16; g++) {
                for (int n = 0; n < 22; n++) {
                    StrawMap x = of(FULL_TREE);
                    for (int t = 0; t < 100; t++) {
                        is(x.draw(g, n, t), drawn(g, n, t));
                    }
                }
            }
        });
    }

    private static void wants() {
        says("want(u) of a number u from 1 to 65521 is computed like this:", () -> {
            StrawMap x = new StrawMap();
            are(row(x.want(0), x.want(1), x.want(65521), x.want(65522)), BAD, 65536, 2, BAD);
        });
        says("Let E be the greatest integer with 2^E at most u, V = u * 2^(16 - E) and P = 0.", () -> {
            StrawMap x = new StrawMap();
            for (int e = 0; e <= 15; e++) {
                is(x.want(1 << e), 65536 - 4096 * e);
            }
            for (int e = 2; e <= 15; e++) {
                is(x.want((1 << e) - 1), wanted((1 << e) - 1));
                holds(x.want((1 << e) - 1) > 65536 - 4096 * e);
            }
        });
        says("Twelve times, V becomes V * V / 65536, rounded down, and P becomes 2 * P;", () -> {
            for (int from = 1; from <= 65521; from += 500) {
                StrawMap x = new StrawMap();
                for (int u = from; u < Math.min(from + 500, 65522); u++) {
                    is(x.want(u), wanted(u));
                }
            }
        });
        says("if V is at least 131072 then, V becomes V / 2, rounded down, and P grows by 1.", () -> {
            // The first square of 46341 gives just 131072, that of 46340 gives 131066.
            StrawMap x = new StrawMap();
            are(row(x.want(46340), x.want(46341)), 2049, 2048);
        });
        says("want(u) is 65536 - 4096 * E - P.", () -> {
            StrawMap x = new StrawMap();
            are(row(x.want(1), x.want(2), x.want(3), x.want(32768), x.want(40000)), 65536, 61440, 59044, 4096, 2918);
        });
    }

    /** One rack whose disks have these weights. */
    private static StrawMap disksOf(int... weights) {
        StringBuilder text = new StringBuilder("h;r;");
        for (int w : weights) {
            text.append('d').append(w).append(",9;");
        }
        return of(text.append("c1,3,0;").toString());
    }

    private static int choiceByHand(StrawMap x, int g, int t, int n) {
        int best = NONE;
        for (int m = 1; m < 22; m++) {
            if (x.node(m, 1) == n && x.node(m, 0) > 0) {
                long mine = best == NONE ? 0 : (long) wanted(drawn(g, m, t)) * x.node(best, 0);
                long its = best == NONE ? 1 : (long) wanted(drawn(g, best, t)) * x.node(m, 0);
                best = mine < its ? m : best;
            }
        }
        return best;
    }

    private static void choices() {
        says("The choice at a node by a group g and a number t is the node m below it, one level lower,", () -> {
            StrawMap x = new StrawMap();
            for (int g = 0; g < 16; g++) {
                for (int n = 0; n <= 8; n++) {
                    is(x.node(x.chosen(g, g, n), 1), n);
                }
            }
            StrawMap alone = of("h;h;r;r;d0,1;d1,1;");
            are(row(alone.chosen(5, 5, 0), alone.chosen(5, 5, 2), alone.chosen(5, 5, 5)), 2, 5, 11);
        });
        says("with weight above 0,", () -> {
            StrawMap x = of("h;r;d0,1;d1,1;d0,1;r;d0,1;h;r;d0,1;");
            for (int g = 0; g < 16; g++) {
                are(row(x.chosen(g, g, 4), x.chosen(g, g, 1), x.chosen(g, g, 0)), 11, 4, 1);
            }
        });
        says("for which want(draw(g, m, t)) / (weight of m) is smallest (compared exactly);", () -> {
            // 548 / 13 and 843 / 20 are both 42.15, but 843 * 13 is less than 548 * 20, by 1.
            StrawMap x = disksOf(0, 0, 13, 0, 0, 0, 0, 0, 20);
            are(row(wanted(drawn(3, 12, 0)), wanted(drawn(3, 18, 0)), x.chosen(3, 0, 4)), 548, 843, 18);
            x.weigh(18, 19);
            is(x.chosen(3, 0, 4), 12);
            // 605 against 1209 / 2
            is(disksOf(0, 1, 0, 0, 0, 0, 2).chosen(13, 0, 4), 16);
            // 1765 / 28 against 63
            is(disksOf(0, 0, 0, 28, 0, 0, 0, 0, 1).chosen(5, 1, 4), 18);
            for (int g = 0; g < 16; g++) {
                StrawMap y = new StrawMap();
                for (int n = 0; n <= 8; n++) {
                    is(y.chosen(g, g, n), choiceByHand(y, g, g, n));
                }
                is(y.chosen(g, 0, 0), choiceByHand(y, g, 0, 0));
                is(y.chosen(g, 99, 0), choiceByHand(y, g, 99, 0));
            }
        });
        says("of several the lowest one;", () -> {
            // 2654 / 1 and 7962 / 3
            StrawMap x = disksOf(0, 0, 0, 0, 0, 1, 3);
            are(row(x.chosen(4, 0, 4), x.weigh(16, 4), x.chosen(4, 0, 4)), 15, 3, 16);
            is(disksOf(0, 0, 0, 0, 0, 10, 30).chosen(4, 0, 4), 15);
            // both 8071
            is(disksOf(0, 7, 0, 7).chosen(8, 4, 4), 11);
            // both 2307, of racks with the same weight
            is(of("h;r;r;d5,9;r;d2,9;d3,9;").chosen(2, 2, 1), 5);
            // 45 / 3 and 255 / 17
            is(of("h;r;r;r;r;d3,9;r;d17,9;").chosen(3, 0, 1), 7);
        });
        says("there is none if all these weights are 0.", () -> {
            StrawMap x = of("h;r;d1,1;r;d0,1;d0,1;r;h;r;d0,1;h;");
            are(row(x.chosen(0, 0, 4), x.chosen(0, 0, 5), x.chosen(0, 0, 6), x.chosen(0, 0, 7), x.chosen(0, 0, 2),
                x.chosen(0, 0, 3), x.chosen(0, 0, 1)), 10, NONE, NONE, NONE, NONE, NONE, 4);
            x.weigh(10, 0);
            all(NONE, x.chosen(0, 0, 0), x.chosen(15, 99, 0), x.chosen(0, 0, 1), x.chosen(0, 0, 4));
        });
        says("Try t of a group is the disk to which choices with this t lead from the root;", () -> {
            StrawMap x = new StrawMap();
            for (int g = 0; g < 16; g++) {
                for (int c = 0; c < 3; c++) {
                    is(x.place(g, c), tried(x, g, x.taken(g, c)));
                }
            }
        });
        says("there is none if the weight of the root is 0.", () -> {
            StrawMap x = of("h;r;d0,9;d0,9;c2,3,1;");
            for (int g = 0; g < 16; g++) {
                all(NONE, x.place(g, 0), x.place(g, 1), x.taken(g, 0), x.taken(g, 1));
            }
            x.weigh(11, 1);
            for (int g = 0; g < 16; g++) {
                are(row(x.place(g, 0), x.place(g, 1), x.taken(g, 0)), 11, NONE, 0);
            }
        });
    }

    private static void acceptable() {
        in("PLACEMENT");
        says("PLACEMENT. A disk is acceptable for a group g if it is not full", () -> {
            StrawMap x = of("h;r;d9,0;d9,9;c2,3,0;t24;");
            are(row(x.groups(10), x.groups(11)), 65535, 65535);
            x.refill();
            are(row(x.node(10, 4), x.groups(10), x.groups(11)), 1, 0, 65535);
        });
        says("and draw(g, disk, 99) modulo 16 is less than its reweight.", () -> {
            StrawMap x = of(ONLY_13);
            int least = 15;
            int most = 0;
            for (int g = 0; g < 16; g++) {
                least = Math.min(least, drawn(g, 13, 99) % 16);
                most = Math.max(most, drawn(g, 13, 99) % 16);
            }
            are(row(least, most), 0, 15);
            for (int r = 16; r >= 0; r--) {
                x.reweigh(13, r);
                for (int g = 0; g < 16; g++) {
                    is(x.place(g, 0), drawn(g, 13, 99) % 16 < r ? 13 : NONE);
                }
            }
        });
        says("Two disks are apart if they are in different halls (L = 1),", () -> {
            StrawMap x = of("h;r;d9,9;r;d9,9;h;c2,1,0;t24;");
            for (int g = 0; g < 16; g++) {
                is(x.place(g, 1), NONE);
            }
            x.move(5, 2);
            are(row(x.groups(10), x.groups(11)), 65535, 65535);
        });
        says("in different racks (L = 2),", () -> {
            StrawMap x = of("h;r;d9,9;d9,9;r;c2,2,0;t24;");
            for (int g = 0; g < 16; g++) {
                is(x.place(g, 1), NONE);
            }
            x.move(11, 5);
            are(row(x.groups(10), x.groups(11)), 65535, 65535);
        });
        says("or different (L = 3).", () -> {
            StrawMap x = of(TWO_ALIKE);
            are(row(x.groups(10), x.groups(11)), 65535, 65535);
            x.weigh(11, 0);
            for (int g = 0; g < 16; g++) {
                are(row(x.place(g, 0), x.place(g, 1)), 10, NONE);
            }
        });
        says("The placement of a group consists of the copies 0 to N - 1, each a disk or none;", () -> {
            StrawMap x = of(FOUR_ALIKE);
            for (int n = 4; n >= 1; n--) {
                x.rule(n, 3, 0);
                for (int g = 0; g < 16; g++) {
                    for (int c = 0; c < 4; c++) {
                        holds(c < n ? x.place(g, c) >= 10 : x.place(g, c) == NONE);
                    }
                }
            }
            StrawMap few = of("h;r;d1,1;c4,3,0;");
            are(row(few.place(0, 0), few.place(0, 1), few.place(0, 2), few.place(0, 3)), 10, NONE, NONE, NONE);
        });
        says("copies from N to 3 are none.", () -> {
            StrawMap x = of("h;r;d9,9;d14,9;d9,9;d14,9;c1,3,0;t24;");
            are(row(x.place(0, 1), x.place(0, 2), x.place(0, 3), x.taken(0, 1), x.taken(0, 3)),
                NONE, NONE, NONE, NONE, NONE);
            x.rule(3, 3, 1);
            are(row(x.place(0, 3), x.taken(0, 3)), NONE, NONE);
            x.rule(4, 3, 0);
            holds(x.place(0, 3) >= 10);
        });
    }

    private static void rules() {
        says("The rule decides how tries are used; a disk of a try is taken if it is acceptable and apart from all"
            + " disks taken before.", () -> {
            StrawMap x = new StrawMap();
            x.reweigh(18, 7);
            for (int g = 0; g < 16; g++) {
                int copies = 0;
                int racks = 0;
                for (int t = 0; t < 20 && copies < 3 && g % 2 == 0; t++) {
                    int d = tried(x, g, t);
                    boolean apart = (racks >> x.node(d, 1) & 1) == 0;
                    if (apart && drawn(g, d, 99) % 16 < x.node(d, 3)) {
                        are(row(x.place(g, copies), x.taken(g, copies)), d, t);
                        racks |= 1 << x.node(d, 1);
                        copies++;
                    }
                }
            }
        });
        says("Onward: for t = 0, 1 and so on below the number of tries,", () -> {
            // Disk 11 is group 9's disk in try 23 for the first time.
            are(row(of("h;r;d13,9;d1,9;c2,3,0;t24;").taken(9, 1), of("h;r;d13,9;d1,9;c2,3,0;t23;").taken(9, 1),
                of("h;r;d13,9;d1,9;c2,3,0;t24;").place(9, 1), of("h;r;d13,9;d1,9;c2,3,0;t23;").place(9, 1)),
                23, NONE, 11, NONE);
            StrawMap one = of("h;r;d9,9;d9,9;c2,3,0;t1;");
            for (int g = 0; g < 16; g++) {
                are(row(one.taken(g, 0), one.taken(g, 1)), 0, NONE);
            }
        });
        says("the disk of try t, if it is taken, becomes the next copy, until there are N copies.", () -> {
            // Group 4's tries lead to 11, 11, 11, 10; group 2's to 10, which is refused, and 11.
            StrawMap x = of("h;r;d9,9;d9,9;c2,3,0;t24;");
            are(row(x.place(4, 0), x.taken(4, 0), x.place(4, 1), x.taken(4, 1)), 11, 0, 10, 3);
            x.reweigh(10, 11);
            are(row(x.place(2, 0), x.taken(2, 0), x.place(2, 1), x.taken(2, 1)), 11, 1, NONE, NONE);
            x.reweigh(10, 16);
            x.rule(1, 3, 0);
            are(row(x.place(4, 0), x.place(4, 1), x.taken(4, 1)), 11, NONE, NONE);
        });
        says("Fixed: for t = 0, 1 and so on below the number of tries,", () -> {
            are(row(of("h;r;d9,9;d9,9;c2,3,1;t4;").taken(4, 1), of("h;r;d9,9;d9,9;c2,3,1;t3;").taken(4, 1)), 3, NONE);
            StrawMap one = of("h;r;d9,9;d9,9;c2,3,1;t1;");
            for (int g = 0; g < 16; g++) {
                are(row(one.taken(g, 0), one.taken(g, 1)), 0, NONE);
            }
        });
        says("if copy t modulo N is none yet, the disk of try t, if it is taken, becomes this copy.", () -> {
            // Group 6's tries lead to 10, 10, 10, 10, 11, 11: try 4 is of copy 0, which is there already.
            StrawMap x = of("h;r;d9,9;d9,9;c2,3,1;t24;");
            are(row(x.place(6, 0), x.taken(6, 0), x.place(6, 1), x.taken(6, 1)), 10, 0, 11, 5);
            // Group 2's disk 10 is refused: copy 0 stays out, before a copy 1.
            x.reweigh(10, 11);
            are(row(x.place(2, 0), x.taken(2, 0), x.place(2, 1), x.taken(2, 1)), NONE, NONE, 11, 1);
            // Group 1's tries lead to 12, 12, 10, 10: the 10 of try 2 is not used and does not hinder that of try 3.
            StrawMap y = of("h;r;d9,9;d9,9;d9,9;c2,3,1;t24;");
            are(row(y.place(1, 0), y.place(1, 1), y.taken(1, 1)), 12, 10, 3);
            // With N = 1 each try is of copy 0.
            StrawMap z = of("h;r;d9,9;d9,9;c1,3,1;t24;");
            z.reweigh(10, 11);
            are(row(z.place(2, 0), z.taken(2, 0), z.place(2, 1)), 11, 1, NONE);
        });
    }

    private static void overrides() {
        // In the first map group 0 is on 12, 18 and 10.
        says("Then the overrides of the group are applied in order.", () -> {
            StrawMap x = new StrawMap();
            x.divert(0, 12, 13);
            x.divert(0, 13, 14);
            are(row(x.place(0, 0), x.override(0, 3), x.override(1, 3)), 14, 1, 1);
            x.lift(0);
            x.divert(0, 12, 13);
            are(row(x.place(0, 0), x.override(0, 3), x.override(1, 3)), 13, 0, 1);
            StrawMap there = new StrawMap();
            there.divert(0, 12, 13);
            there.divert(0, 13, 12);
            are(row(there.place(0, 0), there.override(0, 3), there.override(1, 3), there.since(1, 2)), 12, 1, 1, 65535);
            is(there.place(1, 0), 12);
        });
        says("An override has a disk \"from\" and a disk \"to\".", () -> {
            StrawMap x = new StrawMap();
            x.divert(0, 10, 18);
            are(row(x.override(0, 1), x.override(0, 2)), 10, 18);
        });
        says("If \"from\" is a copy then,", () -> {
            StrawMap x = new StrawMap();
            x.divert(0, 13, 14);
            are(row(x.override(0, 3), x.place(0, 0), x.place(0, 1), x.place(0, 2), x.place(0, 3)), 0, 12, 18, 10, NONE);
            StrawMap empty = of("h;r;d0,9;d0,9;");
            empty.divert(0, 10, 11);
            are(row(empty.override(0, 3), empty.place(0, 0), empty.place(0, 1)), 0, NONE, NONE);
            StrawMap last = new StrawMap();
            last.divert(0, 10, 11);
            are(row(last.override(0, 3), last.place(0, 2), last.taken(0, 2)), 1, 11, 4);
        });
        says("and \"to\" is not full,", () -> {
            StrawMap x = of("h;r;d9,9;d0,0;c1,3,0;");
            x.divert(0, 10, 11);
            are(row(x.override(0, 3), x.place(0, 0), x.refill()), 1, 11, 1);
            are(row(x.override(0, 3), x.place(0, 0)), 0, 10);
        });
        says("has a reweight above 0", () -> {
            // Disk 10 is not acceptable for group 1 with a reweight below 16.
            StrawMap x = of("h;r;d0,9;d9,9;c1,3,0;");
            x.divert(1, 11, 10);
            for (int r = 15; r >= 1; r--) {
                x.reweigh(10, r);
                are(row(x.override(0, 3), x.place(1, 0)), 1, 10);
            }
            x.reweigh(10, 0);
            are(row(x.override(0, 3), x.place(1, 0)), 0, 11);
            x.reweigh(10, 1);
            x.up(10, 0);
            is(x.place(1, 0), 10);
        });
        says("and is apart from all copies other than \"from\", it replaces \"from\";", () -> {
            StrawMap x = new StrawMap();
            x.divert(0, 12, 11);
            are(row(x.override(0, 3), x.place(0, 0)), 0, 12);
            x.divert(0, 10, 11);
            are(row(x.override(1, 3), x.place(0, 2)), 1, 11);
            x.rule(3, 3, 0);
            x.lift(1);
            // "to" is another copy.
            int both = x.groups(12) & x.groups(18);
            holds(both > 0);
            x.divert(Integer.numberOfTrailingZeros(both), 12, 18);
            is(x.override(1, 3), 0);
            // With L = 1 it may be in the hall of "from" alone.
            StrawMap y = of("h;r;d9,9;r;d0,9;h;r;d9,9;d0,9;c2,1,0;t24;");
            y.divert(3, 10, 13);
            y.divert(3, 10, 11);
            are(row(y.override(0, 3), y.override(1, 3), has(y, 3, 11) ? 1 : 0), 0, 1, 1);
        });
        says("otherwise the override has no effect.", () -> {
            StrawMap x = new StrawMap();
            x.divert(0, 12, 18);
            x.divert(0, 11, 13);
            are(row(x.override(0, 3), x.override(1, 3), x.since(1, 2), x.since(1, 0)), 0, 0, 65535, 0);
        });
        says("A pair is a group and a disk that is one of its copies.", () -> {
            StrawMap x = of("h;r;d0,9;c4,3,0;");
            x.weigh(10, 1);
            are(row(x.since(1, 0), x.since(1, 1), x.since(2, 0), x.since(2, 1)), 16, 0, 0, 16);
            x.weigh(10, 0);
            are(row(x.since(2, 0), x.since(2, 1)), 0, 0);
        });
    }

    private static void epochs() {
        in("EPOCHS");
        says("EPOCHS. The epoch is 1 when a map is read.", () -> {
            StrawMap x = new StrawMap();
            is(x.count(8), 1);
            x.weigh(10, 1);
            x.weigh(10, 2);
            lay(x, "h;r;d1,1;");
            are(row(x.count(8), x.count(9)), 1, 1);
        });
        says("Each change of the map begins a new epoch, greater by 1.", () -> {
            StrawMap x = of("h;r;d4,0;d9,9;h;r;d1,1;");
            x.weigh(10, 5);
            is(x.count(8), 2);
            x.reweigh(10, 5);
            is(x.count(8), 3);
            x.refill();
            is(x.count(8), 4);
            x.divert(0, 10, 11);
            is(x.count(8), 5);
            x.lift(0);
            is(x.count(8), 6);
            x.rule(1, 1, 1);
            is(x.count(8), 7);
            x.rack(1);
            is(x.count(8), 8);
            x.disk(6, 1, 1);
            is(x.count(8), 9);
            x.move(10, 6);
            is(x.count(8), 10);
            x.back(9);
            is(x.count(8), 11);
            x.put(0, 1);
            x.tick(8);
            x.up(10, 0);
            x.fail(11);
            x.seen(0, 10, 1);
            x.forget();
            x.write('h');
            x.wipe();
            is(x.count(8), 11);
        });
        says("The maps of the latest five epochs are known;", () -> {
            StrawMap x = new StrawMap();
            for (int epoch = 1; epoch <= 8; epoch++) {
                is(x.count(9), Math.min(epoch, 5));
                for (int e = epoch - 6; e <= epoch + 1; e++) {
                    boolean known = e >= 1 && e <= epoch && e > epoch - 5;
                    holds(x.since(e, 0) != NONE == known && x.old(e, 0, 0) != NONE == known);
                }
                x.weigh(10, 10 + epoch);
            }
        });
        says("the last of these is the present map.", () -> {
            StrawMap x = new StrawMap();
            lived(x);
            are(row(x.count(8), x.since(8, 0), x.since(8, 2), x.back(8)), 8, 0, 65535, NO);
            for (int g = 0; g < 16; g++) {
                is(x.old(8, g, 1), x.place(g, 1));
            }
        });
        says("A disk takes part if its weight and its reweight are above 0 and it is not full.", () -> {
            // Disk 10 has all groups, so that a disk 11 that takes part makes the spread 16.
            StrawMap x = of("h;r;d9,9;d0,0;c1,3,0;");
            is(x.spread(), 0);
            x.reweigh(11, 1);
            x.weigh(11, 1);
            is(x.spread(), Integer.bitCount(x.groups(10)) - Integer.bitCount(x.groups(11)));
            holds(x.spread() > 0);
            x.reweigh(11, 0);
            is(x.spread(), 0);
            x.reweigh(11, 1);
            x.refill();
            are(row(x.node(11, 4), x.spread()), 1, 0);
        });
        says("The spread is the greatest number of pairs that a disk that takes part has, minus the smallest such"
            + " number;", () -> {
            StrawMap x = new StrawMap();
            int most = 0;
            int fewest = 16;
            for (int d = 10; d <= 18; d++) {
                most = Math.max(most, Integer.bitCount(x.groups(d)));
                fewest = Math.min(fewest, Integer.bitCount(x.groups(d)));
            }
            are(row(most - fewest, x.spread()), 9, 9);
            is(of("h;r;d40,9;h;r;d1,9;c1,3,0;").spread(), 16 - 2 * Integer.bitCount(
                of("h;r;d40,9;h;r;d1,9;c1,3,0;").groups(11)));
            are(row(of(TWO_ALIKE).spread(), of("h;r;d1,1;").spread()), 0, 0);
            // The only disk takes part, but is acceptable for no group.
            StrawMap alone = of("h;r;d9,9;c1,3,0;");
            alone.reweigh(10, 1);
            are(row(alone.groups(10), alone.spread()), 0, 0);
        });
        says("0 if no disk takes part.", () -> {
            all(0, of("h;r;d0,9;").spread(), of("h;r;d0,9;d0,9;").spread());
            StrawMap x = of("h;r;d9,9;d0,9;c1,3,0;");
            x.divert(0, 10, 11);
            x.reweigh(10, 0);
            is(x.spread(), 0);
            StrawMap full = of("h;r;d9,0;d9,0;");
            full.refill();
            is(full.spread(), 0);
        });
    }

    private static void promise18() {
        in("Promise 18");
        says("Returns the group of a key.", () -> {
            StrawMap x = new StrawMap();
            are(row(x.group(77), x.group(1), x.group(4999)), 10, 15, groupOf(4999));
        });
        says("`k`: the key, 0 to 9999", () -> {
            StrawMap x = new StrawMap();
            are(row(x.group(-1), x.group(0), x.group(9999), x.group(10000)), BAD, 0, 9, BAD);
        });
        says("Returns the group; errors: BAD.", () ->
            refusesAll(BAD, States::lived, new int[] {LOW, -1, 10000, 65521, HIGH}, StrawMap::group));
    }

    private static void promise19() {
        in("Promise 19");
        says("Returns draw(g, n, t).", () -> {
            StrawMap x = new StrawMap();
            are(row(x.draw(3, 10, 0), x.draw(0, 0, 0), x.draw(15, 18, 99)), 37716, 2, drawn(15, 18, 99));
        });
        says("`g`: a group, 0 to 15", () -> {
            refusesAll(BAD, States::lived, NO_GROUPS, (x, g) -> x.draw(g, 10, 0));
            StrawMap x = new StrawMap();
            are(row(x.draw(0, 10, 0), x.draw(15, 10, 0)), drawn(0, 10, 0), drawn(15, 10, 0));
        });
        says("`n`: a node", () -> {
            refusesAll(BAD, States::lived, NO_NODES, (x, n) -> x.draw(0, n, 0));
            StrawMap x = of(FULL_TREE);
            for (int n = 0; n <= 21; n++) {
                is(x.draw(7, n, 7), drawn(7, n, 7));
            }
            all(BAD, x.draw(7, -1, 7), x.draw(7, 22, 7));
            StrawMap small = of("h;r;d1,1;");
            all(BAD, small.draw(0, 2, 0), small.draw(0, 5, 0), small.draw(0, 11, 0));
        });
        says("`t`: 0 to 99", () -> {
            StrawMap x = new StrawMap();
            are(row(x.draw(1, 1, -1), x.draw(1, 1, 0), x.draw(1, 1, 99), x.draw(1, 1, 100)),
                BAD, drawn(1, 1, 0), drawn(1, 1, 99), BAD);
        });
        says("Returns it; errors: BAD.", () ->
            refusesAll(BAD, States::lived, new int[] {LOW, -1, 100, HIGH}, (x, t) -> x.draw(0, 0, t)));
    }

    private static void promise20() {
        in("Promise 20");
        says("Returns want(u).", () -> {
            StrawMap x = new StrawMap();
            are(row(x.want(40000), x.want(65520)), 2918, wanted(65520));
        });
        says("`u`: 1 to 65521", () -> {
            StrawMap x = new StrawMap();
            are(row(x.want(0), x.want(1), x.want(65521), x.want(65522)), BAD, 65536, 2, BAD);
        });
        says("Returns it; errors: BAD.", () ->
            refusesAll(BAD, States::lived, new int[] {LOW, -1, 0, 65522, 65536, HIGH}, StrawMap::want));
    }

    private static void promise21() {
        in("Promise 21");
        says("Returns the choice at a node.", () -> {
            StrawMap x = new StrawMap();
            are(row(x.chosen(3, 0, 0), x.chosen(0, 0, 1), x.chosen(0, 0, 4)), 2, 5, 10);
            changesNothing(States::lived, y -> y.chosen(0, 99, 0), y -> y.chosen(15, 0, 8));
        });
        says("`g`: a group, 0 to 15", () -> {
            refusesAll(BAD, States::lived, NO_GROUPS, (x, g) -> x.chosen(g, 0, 0));
            StrawMap x = new StrawMap();
            are(row(x.chosen(0, 0, 0), x.chosen(15, 0, 0)), choiceByHand(x, 0, 0, 0), choiceByHand(x, 15, 0, 0));
        });
        says("`t`: 0 to 99", () -> {
            refusesAll(BAD, States::lived, new int[] {LOW, -1, 100, HIGH}, (x, t) -> x.chosen(0, t, 0));
            // 23 and 24 are the last number of a try and the first that is none.
            for (int t : new int[] {0, 23, 24, 99}) {
                for (int g = 0; g < 16; g++) {
                    StrawMap x = new StrawMap();
                    for (int n = 0; n <= 2; n++) {
                        is(x.chosen(g, t, n), choiceByHand(x, g, t, n));
                    }
                }
            }
        });
        says("`n`: a node, not a disk", () -> {
            refusesAll(BAD, States::lived, NO_NODES, (x, n) -> x.chosen(0, 0, n));
            refuses(BAD, States::lived, x -> x.chosen(0, 0, 10), x -> x.chosen(0, 0, 18));
            StrawMap x = of(FULL_TREE);
            for (int n = 0; n <= 9; n++) {
                is(x.chosen(1, 2, n), choiceByHand(x, 1, 2, n));
            }
            all(BAD, x.chosen(1, 2, 10), x.chosen(1, 2, 21), x.chosen(1, 2, 22));
        });
        says("Returns the node that is chosen; NONE if there is none; errors: BAD.", () -> {
            StrawMap x = of("h;r;d0,1;");
            are(row(x.chosen(0, 0, 4), x.chosen(0, 0, 1), x.chosen(0, 0, 0)), NONE, NONE, NONE);
            all(BAD, x.chosen(0, 0, 10), x.chosen(16, 0, 4), x.chosen(0, 100, 4), x.chosen(0, 0, 5));
        });
    }

    private static void promise22() {
        in("Promise 22");
        says("Returns a copy of the placement of a group.", () -> {
            StrawMap x = new StrawMap();
            are(row(x.place(3, 0), x.place(3, 1), x.place(3, 2), x.place(3, 3)), 16, 14, 18, NONE);
            x.divert(3, 14, 15);
            is(x.place(3, 1), 15);
        });
        says("`g`: a group, 0 to 15", () -> {
            refusesAll(BAD, States::lived, NO_GROUPS, (x, g) -> x.place(g, 0));
            StrawMap x = new StrawMap();
            are(row(x.place(0, 0), x.place(15, 0)), 12, 12);
        });
        says("`c`: the copy, 0 to 3", () -> {
            refusesAll(BAD, States::lived, NO_COPIES, (x, c) -> x.place(0, c));
            StrawMap x = of(FOUR_ALIKE);
            is(set(x.place(0, 0), x.place(0, 1), x.place(0, 2), x.place(0, 3)), 15);
        });
        says("Returns the disk; NONE if there is none; errors: BAD.", () -> {
            StrawMap x = of("h;r;d0,1;");
            are(row(x.place(0, 0), x.place(0, 3), x.place(0, 4), x.place(16, 0)), NONE, NONE, BAD, BAD);
        });
    }

    private static void promise23() {
        in("Promise 23");
        says("Returns by which try a copy of a group came to be, before overrides.", () -> {
            StrawMap x = new StrawMap();
            are(row(x.taken(0, 0), x.taken(0, 1), x.taken(0, 2)), 0, 1, 4);
            x.divert(0, 10, 11);
            are(row(x.place(0, 2), x.taken(0, 2)), 11, 4);
            are(row(of("h;r;d13,9;d1,9;c2,3,0;t24;").taken(9, 1), x.taken(1, 2)), 23, 6);
        });
        says("`g`: a group, 0 to 15", () -> {
            refusesAll(BAD, States::lived, NO_GROUPS, (x, g) -> x.taken(g, 0));
            StrawMap x = new StrawMap();
            are(row(x.taken(0, 0), x.taken(15, 2)), 0, 3);
        });
        says("`c`: the copy, 0 to 3", () -> {
            refusesAll(BAD, States::lived, NO_COPIES, (x, c) -> x.taken(0, c));
            StrawMap x = of(FOUR_ALIKE);
            is(x.place(0, 3), tried(x, 0, x.taken(0, 3)));
        });
        says("Returns the number of the try; NONE if there is none; errors: BAD.", () -> {
            StrawMap x = of("h;r;d0,1;");
            are(row(x.taken(0, 0), x.taken(0, 3), x.taken(0, 4), x.taken(16, 0)), NONE, NONE, BAD, BAD);
        });
    }

    private static void promise24() {
        in("Promise 24");
        says("Finds the groups that have a disk in their placement which is a given node or below it.", () -> {
            StrawMap x = new StrawMap();
            for (int n = 10; n <= 18; n++) {
                int due = 0;
                for (int g = 0; g < 16; g++) {
                    due |= x.place(g, 0) == n || x.place(g, 1) == n || x.place(g, 2) == n ? 1 << g : 0;
                }
                is(x.groups(n), due);
            }
            are(row(x.groups(0), x.groups(2), x.groups(4)),
                65535, x.groups(14) | x.groups(15) | x.groups(16), x.groups(10) | x.groups(11));
            x.divert(0, 12, 13);
            are(row(x.groups(12) & 1, x.groups(13) & 1, x.groups(5) & 1), 0, 1, 1);
        });
        says("`n`: a node", () -> {
            refusesAll(BAD, States::lived, NO_NODES, StrawMap::groups);
            StrawMap x = of(FULL_TREE);
            for (int n = 0; n <= 21; n++) {
                holds(x.groups(n) >= 0);
            }
            all(BAD, x.groups(-1), x.groups(22));
        });
        says("Returns the set of these groups; errors: BAD.", () -> {
            StrawMap x = of("h;r;d1,1;d0,1;r;h;");
            are(row(x.groups(0), x.groups(1), x.groups(4), x.groups(10), x.groups(11), x.groups(5), x.groups(2)),
                65535, 65535, 65535, 65535, 0, 0, 0);
            all(BAD, x.groups(3), x.groups(6), x.groups(12));
        });
    }

    private static void promise25() {
        in("Promise 25");
        says("Returns the spread.", () -> {
            are(row(new StrawMap().spread(), of("h;r;d0,9;").spread(), of("h;r;d9,9;").spread()), 9, 0, 0);
            changesNothing(States::lived, StrawMap::spread);
        });
    }

    private static void promise26() {
        in("Promise 26");
        says("Returns the weight of a node divided by that of the root, as a fraction in lowest terms.", () -> {
            StrawMap x = new StrawMap();
            are(row(x.share(1, 0), x.share(1, 1), x.share(18, 0), x.share(18, 1), x.share(15, 0), x.share(15, 1)),
                6, 17, 4, 17, 1, 34);
            are(row(x.share(0, 0), x.share(0, 1)), 1, 1);
            x.weigh(10, 0);
            are(row(x.share(10, 0), x.share(10, 1), x.share(4, 0), x.share(4, 1)), 0, 1, 1, 15);
            StrawMap great = of("h;r;" + "d40,9;".repeat(11) + "d39,9;");
            are(row(great.share(21, 0), great.share(21, 1), great.share(10, 0), great.share(10, 1)), 39, 479, 40, 479);
        });
        says("`n`: a node", () -> {
            refusesAll(BAD, States::lived, NO_NODES, (x, n) -> x.share(n, 0));
            StrawMap x = of(FULL_TREE);
            are(row(x.share(21, 0), x.share(21, 1), x.share(22, 0), x.share(-1, 1)), 2, 13, BAD, BAD);
        });
        says("`part`: 0 for the numerator; 1 for the denominator", () -> {
            refusesAll(BAD, States::lived, new int[] {LOW, -1, 2, HIGH}, (x, part) -> x.share(0, part));
            StrawMap x = new StrawMap();
            are(row(x.share(2, 0), x.share(2, 1)), 6, 17);
        });
        says("Returns it; NONE if the weight of the root is 0; errors: BAD.", () -> {
            StrawMap x = of("h;r;d0,9;");
            all(NONE, x.share(0, 0), x.share(0, 1), x.share(10, 0), x.share(10, 1));
            all(BAD, x.share(0, 2), x.share(0, -1), x.share(11, 0), x.share(-1, 0));
            x.weigh(10, 1);
            are(row(x.share(0, 0), x.share(10, 1)), 1, 1);
        });
    }

    private static void promise27() {
        in("Promise 27");
        says("Returns a copy of the placement that a group had by the map of an epoch.", () -> {
            StrawMap x = new StrawMap();
            x.divert(0, 12, 13);
            x.rule(4, 3, 0);
            are(row(x.old(1, 0, 0), x.old(2, 0, 0), x.old(2, 0, 1), x.old(3, 0, 3)), 12, 13, 18, x.place(0, 3));
        });
        says("`epoch`: an epoch", () -> {
            StrawMap x = new StrawMap();
            are(row(x.old(0, 0, 0), x.old(1, 0, 0), x.old(2, 0, 0)), NONE, 12, NONE);
        });
        says("`g`: a group, 0 to 15", () -> {
            refusesAll(BAD, States::lived, NO_GROUPS, (x, g) -> x.old(8, g, 0));
            StrawMap x = new StrawMap();
            are(row(x.old(1, 0, 2), x.old(1, 15, 2)), 10, 18);
        });
        says("`c`: the copy, 0 to 3", () -> {
            refusesAll(BAD, States::lived, NO_COPIES, (x, c) -> x.old(8, 0, c));
            StrawMap x = of(FOUR_ALIKE);
            is(set(x.old(1, 0, 0), x.old(1, 0, 1), x.old(1, 0, 2), x.old(1, 0, 3)), 15);
        });
        says("Returns the disk; NONE if the epoch is not known or there was none;", () -> {
            StrawMap x = new StrawMap();
            for (int w = 11; w <= 14; w++) {
                x.weigh(10, w);
            }
            are(row(x.old(1, 0, 0), x.old(1, 0, 3), x.old(5, 0, 3)), 12, NONE, NONE);
            x.weigh(10, 15);
            all(NONE, x.old(1, 0, 0), x.old(0, 0, 0), x.old(-1, 0, 0), x.old(7, 0, 0), x.old(LOW, 0, 0),
                x.old(HIGH, 0, 0));
            holds(x.old(2, 0, 0) >= 10);
        });
        says("errors: BAD if g or c is out of range.", () -> {
            StrawMap x = new StrawMap();
            all(BAD, x.old(0, 16, 0), x.old(2, 0, 4), x.old(1, -1, 0), x.old(1, 0, -1), x.old(HIGH, 16, 4));
            all(NONE, x.old(0, 15, 0), x.old(2, 0, 3));
        });
    }

    private static void promise28() {
        in("Promise 28");
        says("Compares the present placements with those by the map of an epoch.", () -> {
            StrawMap x = new StrawMap();
            x.divert(0, 12, 13);
            are(row(x.since(1, 0), x.since(1, 1), x.since(1, 2)), 1, 47, 65534);
            changesNothing(States::lived, y -> y.since(7, 0), y -> y.since(4, 2));
        });
        says("`epoch`: an epoch", () -> {
            StrawMap x = new StrawMap();
            are(row(x.since(0, 1), x.since(1, 1), x.since(2, 1)), NONE, 48, NONE);
        });
        says("`what`: 0 for the number of present pairs that were none then;", () -> {
            StrawMap x = new StrawMap();
            x.rule(2, 2, 0);
            is(x.since(1, 0), 0);
            x.rule(3, 2, 0);
            are(row(x.since(1, 0), x.since(2, 0)), 0, 16);
        });
        says("1 for the number of present pairs that were pairs then;", () -> {
            StrawMap x = new StrawMap();
            is(x.since(1, 1), 48);
            x.rule(1, 2, 0);
            is(x.since(1, 1), 16);
            StrawMap gone = of("h;r;d9,9;c1,3,0;");
            gone.weigh(10, 0);
            is(gone.since(1, 1), 0);
        });
        says("2 for the set of the groups whose copies 0 to 3 were the same, copy by copy", () -> {
            StrawMap x = new StrawMap();
            x.rule(4, 2, 0);
            int same = 0;
            for (int g = 0; g < 16; g++) {
                same |= x.place(g, 3) == NONE ? 1 << g : 0;
            }
            is(x.since(1, 2), same);
            // The same disks in another order are not the same copies: 12, 18 and 13, 12 and 18.
            StrawMap y = of("h;r;d9,9;d9,9;d0,9;c2,3,0;t24;");
            int first = y.place(0, 0);
            int second = y.place(0, 1);
            y.divert(0, first, 12);
            y.divert(0, second, first);
            y.divert(0, 12, second);
            are(row(y.place(0, 0), y.place(0, 1), y.since(1, 0), y.since(1, 1), y.since(1, 2)),
                second, first, 0, 32, 65534);
            StrawMap empty = of("h;r;d0,9;d0,9;");
            empty.rule(4, 3, 1);
            is(empty.since(1, 2), 65535);
        });
        says("Returns it; NONE if the epoch is not known;", () -> {
            StrawMap x = new StrawMap();
            for (int w = 11; w <= 14; w++) {
                x.weigh(10, w);
            }
            holds(x.since(1, 0) >= 0);
            x.weigh(10, 15);
            all(NONE, x.since(1, 0), x.since(1, 1), x.since(1, 2), x.since(0, 0), x.since(7, 0), x.since(LOW, 0),
                x.since(HIGH, 2));
            holds(x.since(2, 0) >= 0);
        });
        says("errors: BAD if what is out of range.", () -> {
            refusesAll(BAD, States::lived, new int[] {LOW, -1, 3, HIGH}, (x, what) -> x.since(8, what));
            refusesAll(BAD, States::lived, new int[] {LOW, -1, 3, HIGH}, (x, what) -> x.since(0, what));
        });
    }

    /** How many groups are on a disk in the second map that are not on it in the first. */
    private static int newOn(int d, StrawMap first, StrawMap second) {
        return Integer.bitCount(second.groups(d) & ~first.groups(d));
    }

    private static void promise29() {
        in("Promise 29");
        says("Tells how many pairs would be new if the weight of a disk were another one.", () -> {
            StrawMap x = new StrawMap();
            are(row(x.would(10, 8, 0), x.would(10, 4, 0), x.would(10, 4, 1), x.would(10, 4, 2)), 6, 0, 0, 0);
        });
        says("Nothing changes.", () -> changesNothing(States::lived, x -> x.would(10, 40, 0), x -> x.would(18, 0, 2)));
        says("`d`: a disk", () -> {
            refusesAll(BAD, States::lived, NO_DISKS, (x, d) -> x.would(d, 5, 0));
            StrawMap x = of(FULL_TREE);
            are(row(x.would(10, 1, 0), x.would(21, 12, 0), x.would(22, 12, 0), x.would(9, 1, 0)), 0, 0, BAD, BAD);
        });
        says("`w`: the weight, 0 to 40", () -> {
            refusesAll(BAD, States::lived, new int[] {LOW, -1, 41, HIGH}, (x, w) -> x.would(10, w, 0));
            for (int w : new int[] {0, 40}) {
                StrawMap x = new StrawMap();
                int told = x.would(18, w, 0);
                x.weigh(18, w);
                is(told, x.since(1, 0));
            }
        });
        says("`what`: 0 for the number of pairs that would be there and are not there now;", () -> {
            StrawMap x = of("h;r;d9,9;d0,9;c1,3,0;");
            are(row(x.would(10, 0, 0), x.would(11, 0, 0)), 0, 0);
            x.weigh(10, 0);
            are(row(x.would(10, 1, 0), x.would(11, 40, 0), x.would(10, 0, 0)), 16, 16, 0);
        });
        says("1 for the number of those of these that have this disk;", () -> {
            StrawMap x = of("h;r;d9,9;d9,9;c1,3,0;");
            int other = Integer.bitCount(x.groups(11));
            are(row(x.would(11, 0, 0), x.would(11, 0, 1), x.would(10, 0, 0), x.would(10, 0, 1)),
                other, 0, 16 - other, 0);
            x.weigh(11, 0);
            are(row(x.would(11, 9, 0), x.would(11, 9, 1)), other, other);
        });
        says("2 for the number of those that have a disk of its hall", () -> {
            // Disks 10 and 11 are in hall 1, in different racks, and disk 12 is in hall 2.
            String map = "h;r;d9,9;r;d9,9;h;r;d9,9;c1,3,0;";
            for (int d = 10; d <= 12; d++) {
                StrawMap x = of(map);
                StrawMap y = of(map);
                y.weigh(d, d == 11 ? 40 : 0);
                int near = d == 12 ? newOn(12, x, y) : newOn(10, x, y) + newOn(11, x, y);
                int all = newOn(10, x, y) + newOn(11, x, y) + newOn(12, x, y);
                are(row(x.would(d, y.node(d, 0), 0), x.would(d, y.node(d, 0), 1), x.would(d, y.node(d, 0), 2)),
                    all, newOn(d, x, y), near);
                holds(d != 10 || near > 0 && near < all);
                holds(d != 12 || near == 0 && all > 0);
            }
        });
        says("Returns it; errors: BAD.", () ->
            refusesAll(BAD, States::lived, new int[] {LOW, -1, 3, HIGH}, (x, what) -> x.would(10, 1, what)));
    }

    private static void promise30() {
        in("Promise 30");
        says("Finds the smallest weight of a disk, 0 to 40, with which at least n groups would have it in their"
            + " placement.", () -> {
            StrawMap x = of("h;r;d1,9;d20,9;c1,3,0;");
            are(row(x.least(10, 11), x.least(10, 12)), 40, NONE);
            x.weigh(10, 40);
            int groups = Integer.bitCount(x.groups(10));
            x.weigh(10, 39);
            are(row(groups, Integer.bitCount(x.groups(10)) < 11 ? 1 : 0), 11, 1);
            StrawMap free = of("h;r;d9,9;d5,9;c1,3,0;");
            free.divert(2, 10, 11);
            is(free.least(11, 1), 0);
            holds(free.least(11, 2) > 0);
            free.weigh(11, 0);
            are(row(Integer.bitCount(free.groups(11)), free.least(11, 1)), 1, 0);
            is(of("h;r;d9,9;c1,3,0;").least(10, 16), 1);
        });
        says("Nothing changes.", () -> changesNothing(States::lived, x -> x.least(10, 16), x -> x.least(18, 1)));
        says("`d`: a disk", () -> {
            refusesAll(BAD, States::lived, NO_DISKS, (x, d) -> x.least(d, 1));
            StrawMap x = of(FULL_TREE);
            holds(x.least(10, 1) > 0 && x.least(21, 1) > 0);
            all(BAD, x.least(9, 1), x.least(22, 1));
        });
        says("`n`: 1 to 16", () -> {
            refusesAll(BAD, States::lived, new int[] {LOW, -1, 0, 17, HIGH}, (x, n) -> x.least(10, n));
            StrawMap x = of("h;r;d9,9;d9,9;c2,3,0;t24;");
            holds(x.least(10, 1) == 1 && x.least(10, 16) >= 1);
        });
        says("Returns the weight; NONE if there is none; errors: BAD.", () -> {
            StrawMap x = of("h;r;d9,9;d9,9;c1,3,0;");
            x.reweigh(11, 0);
            are(row(x.least(11, 1), x.least(11, 16), x.least(11, 17), x.least(11, 0), x.least(12, 1)),
                NONE, NONE, BAD, BAD, BAD);
        });
    }

    /** What even tells, for 0, 1 and 2. */
    private static int[] evenOf(StrawMap x) {
        return row(x.even(0), x.even(1), x.even(2));
    }

    private static int[] evenOf(String text) {
        return evenOf(of(text));
    }

    private static void promise31() {
        in("Promise 31");
        says("Finds the change of the weight of one disk that takes part,", () -> {
            // Only a change of disk 11, which takes no part, would make the spread smaller.
            StrawMap x = of("h;r;d7,9;d3,9;d4,9;c1,3,0;");
            x.reweigh(11, 0);
            are(evenOf(x), NONE, NONE, NONE);
            int before = x.spread();
            x.weigh(11, 4);
            holds(x.spread() < before);
            StrawMap full = of("h;r;d3,9;d10,0;d6,9;c2,3,1;");
            full.refill();
            are(evenOf(full), NONE, NONE, NONE);
            before = full.spread();
            full.weigh(11, 9);
            holds(full.spread() < before);
            StrawMap light = of("h;r;d6,9;d0,9;d2,9;c1,3,0;");
            for (int g = 0; g <= 4; g++) {
                light.divert(g, light.place(g, 0), 11);
            }
            are(evenOf(light), NONE, NONE, NONE);
            before = light.spread();
            light.weigh(11, 1);
            holds(light.spread() < before);
        });
        says("by 1 up or down,", () -> {
            StrawMap x = new StrawMap();
            int d = x.even(0);
            is(Math.abs(x.even(1) - x.node(d, 0)), 1);
            are(evenOf("h;r;d6,9;r;d5,9;d6,9;c1,2,1;"), 10, 7, 4);
            are(evenOf("h;r;d8,9;d4,9;c1,3,0;"), 10, 7, 2);
        });
        says("to a weight from 1 to 40,", () -> {
            are(evenOf("h;r;d2,9;d1,9;c1,1,0;"), 10, 1, 2);
            are(evenOf("h;r;d39,9;r;d28,9;d39,9;c1,3,1;"), 10, 40, 4);
            // Disk 11 with the weight 0 would make the spread 0 instead of 13, disk 12 with 41 one of 3 instead of 4.
            StrawMap x = of("h;r;d3,9;r;d1,9;d2,9;c2,2,1;");
            are(evenOf(x), NONE, NONE, NONE);
            are(row(x.spread(), x.weigh(11, 0), x.spread()), 13, 1, 0);
            are(evenOf("h;r;d40,9;d39,9;r;d40,9;c2,3,0;"), NONE, NONE, NONE);
        });
        says("with which the spread would be smallest.", () -> {
            StrawMap x = new StrawMap();
            int best = 99;
            for (int d = 10; d <= 18; d++) {
                for (int by = -1; by <= 1; by += 2) {
                    int own = x.node(d, 0);
                    if (own + by >= 1) {
                        x.weigh(d, own + by);
                        best = Math.min(best, x.spread());
                        x.weigh(d, own);
                    }
                }
            }
            is(x.even(2), best);
            x.weigh(x.even(0), x.even(1));
            is(x.spread(), best);
        });
        says("It has to be smaller than the present spread.", () -> {
            // Each change leaves the spread at 4.
            are(evenOf("h;r;d8,9;d15,9;c1,3,0;"), NONE, NONE, NONE);
            are(evenOf("h;r;d9,9;c1,3,0;"), NONE, NONE, NONE);
            are(evenOf(TWO_ALIKE), NONE, NONE, NONE);
        });
        says("Of several changes it is that of the lowest disk, up before down.", () -> {
            // Each change makes the spread 4.
            are(evenOf("h;r;d6,9;r;d5,9;d6,9;c1,2,1;"), 10, 7, 4);
            // Disk 10 down and disk 11 up make it 2.
            are(evenOf("h;r;d8,9;d4,9;c1,3,0;"), 10, 7, 2);
        });
        says("Nothing changes.", () -> changesNothing(States::lived, x -> x.even(0), x -> x.even(1), x -> x.even(2)));
        says("`what`: 0 for the disk; 1 for its weight then; 2 for the spread then", () ->
            are(evenOf("h;r;d39,9;r;d28,9;d39,9;c1,3,1;"), 10, 40, 4));
        says("Returns it; NONE if there is no such change; errors: BAD.", () -> {
            refusesAll(BAD, States::lived, new int[] {LOW, -1, 3, HIGH}, StrawMap::even);
            StrawMap x = of("h;r;d0,9;");
            are(row(x.even(0), x.even(1), x.even(2), x.even(3), x.even(-1)), NONE, NONE, NONE, BAD, BAD);
        });
    }
}
