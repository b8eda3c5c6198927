/** THE TREE, TEXTS, and promises 1 to 17: the map, and changes of the map. */
final class MapSentences extends States {
    private MapSentences() {
    }

    static void test() {
        use();
        tree();
        texts();
        textItems();
        wholeTexts();
        promise1();
        promise2();
        promise3();
        promise4();
        promise5();
        promise6();
        promise7();
        promise8();
        promise9();
        promise10();
        promise11();
        promise12();
        promise13();
        promise14();
        promise15();
        promise16();
        promise17();
    }

    private static void use() {
        in("What it is");
        says("An object is used for at most 512 calls after it has been made; what later calls answer is free.", () -> {
            StrawMap x = new StrawMap();
            for (int call = 1; call <= 511; call++) {
                is(x.weigh(10, call % 2 == 1 ? 40 : 0), call == 1 ? 4 : call % 2 == 1 ? 0 : 40);
            }
            is(x.count(8), 512);
        });
    }

    private static void tree() {
        in("THE TREE");
        says("THE TREE has these nodes: the root 0, halls 1 to 3, racks 4 to 9 and disks 10 to 21,", () -> {
            StrawMap x = of(FULL_TREE);
            for (int n = 0; n <= 21; n++) {
                holds(x.node(n, 0) > 0);
            }
            all(BAD, x.node(-1, 0), x.node(22, 0));
            StrawMap small = of("h;r;d1,1;");
            for (int n = -1; n <= 22; n++) {
                boolean there = n == 0 || n == 1 || n == 4 || n == 10;
                is(small.node(n, 0), there ? 1 : BAD);
            }
        });
        says("each sort numbered in the order in which they are created.", () -> {
            StrawMap x = of(FULL_TREE);
            for (int i = 0; i < 12; i++) {
                are(row(x.node(10 + i, 0), x.node(10 + i, 1), x.node(10 + i, 5)), i + 1, 4 + i / 2, 10 * (i + 1));
            }
            StrawMap y = of("h;r;d1,1;h;h;");
            are(row(y.rack(3), y.rack(2), y.disk(6, 1, 1), y.disk(4, 1, 1), y.disk(5, 1, 1)), 5, 6, 11, 12, 13);
        });
        says("A hall (level 1) is below the root, a rack (level 2) below a hall, a disk (level 3) below a"
            + " rack.", () -> {
            StrawMap x = of(FULL_TREE);
            for (int h = 1; h <= 3; h++) {
                is(x.node(h, 1), 0);
            }
            for (int r = 4; r <= 9; r++) {
                is(x.node(r, 1), 1 + (r - 4) / 2);
            }
            for (int d = 10; d <= 21; d++) {
                is(x.node(d, 1), 4 + (d - 10) / 2);
            }
        });
        says("A map consists of the tree; for each disk a weight (0 to 40), a capacity,", () -> {
            StrawMap x = of("h;r;d0,0;d40,99;");
            are(row(x.node(10, 0), x.node(11, 0), x.node(10, 5), x.node(11, 5)), 0, 40, 0, 990);
        });
        says("a reweight (0 to 16; 16 for a new disk)", () -> {
            StrawMap x = new StrawMap();
            x.reweigh(18, 0);
            is(x.disk(8, 0, 0), 19);
            are(row(x.node(10, 3), x.node(18, 3), x.node(19, 3)), 16, 0, 16);
        });
        says("and whether it is full (a new one is not);", () -> {
            StrawMap x = of("h;r;d1,0;");
            is(x.node(10, 4), 0);
            is(x.refill(), 1);
            is(x.disk(4, 1, 0), 11);
            are(row(x.node(10, 4), x.node(11, 4)), 1, 0);
        });
        says("the rule: N copies (1 to 4), a level L (1 to 3) and a mode (0 onward, 1 fixed);", () -> {
            StrawMap x = new StrawMap();
            for (int n = 1; n <= 4; n++) {
                for (int l = 1; l <= 3; l++) {
                    for (int m = 1; m >= 0; m--) {
                        x.rule(n, l, m);
                        are(row(x.count(3), x.count(4), x.count(5)), n, l, m);
                    }
                }
            }
        });
        says("the number of tries (1 to 24);", () ->
            are(row(of("h;r;d1,1;t1;").count(6), of("h;r;d1,1;t24;").count(6)), 1, 24));
        says("and at most 6 overrides, numbered from 0, none at first.", () -> {
            StrawMap x = new StrawMap();
            are(row(x.count(7), x.override(0, 0)), 0, BAD);
            for (int g = 0; g < 6; g++) {
                is(x.divert(g, 10, 11), g + 1);
            }
            is(x.divert(6, 10, 11), FULL);
            for (int i = 0; i < 6; i++) {
                is(x.override(i, 0), i);
            }
            all(BAD, x.override(-1, 0), x.override(6, 0));
            is(x.count(7), 6);
        });
        says("The weight of a rack, a hall or the root is the sum of the weights of all disks below it.", () -> {
            StrawMap x = of("h;r;d40,1;d40,1;d40,1;d40,1;d40,1;d40,1;d40,1;d40,1;d40,1;d40,1;d40,1;d40,1;h;r;");
            are(row(x.node(4, 0), x.node(1, 0), x.node(0, 0), x.node(5, 0), x.node(2, 0)), 480, 480, 480, 0, 0);
            StrawMap y = of(FULL_TREE);
            are(row(y.node(9, 0), y.node(3, 0), y.node(0, 0)), 23, 42, 78);
            StrawMap z = of("h;r;d0,1;d0,1;");
            all(0, z.node(4, 0), z.node(1, 0), z.node(0, 0));
        });
    }

    private static int faultOf(String text) {
        return withText(text).fault();
    }

    /** The fault is where the sign "!" stands, which is not of the text. */
    private static void faulty(String... marked) {
        for (String m : marked) {
            int at = m.indexOf('!');
            StrawMap x = withText(m.substring(0, at) + m.substring(at + 1));
            are(row(x.fault(), x.lay(), x.count(8), x.count(2)), at, NO, 1, 9);
        }
    }

    private static void faultless(String... texts) {
        for (String t : texts) {
            is(faultOf(t), NONE);
        }
    }

    private static void texts() {
        in("TEXTS");
        says("TEXTS. A map is read from a text of up to 200 characters,", () -> {
            StrawMap x = withText("h;r;" + "d1,1;".repeat(12) + "t1;".repeat(44) + "t07;");
            are(row(x.count(16), x.fault(), x.lay(), x.count(2), x.count(6)), 200, NONE, 12, 12, 7);
            StrawMap cut = withText("h;r;" + "d1,1;".repeat(12) + "t1;".repeat(44) + "t012;");
            are(row(cut.count(16), cut.fault(), cut.lay()), 200, 196, NO);
        });
        says("a sequence of items without anything between them.", () -> {
            faultless("h;r;d1,1;");
            faulty("! h;", "h;! r;", "h;!,r;", "h;!;r;", "h;r;! ", "h;r;d1,1;!.", "h;!1r;");
        });
        says("An item is a letter, then, for d, c and t, numbers with \",\" between them, then \";\".", () -> {
            faulty("!h", "!h,", "!h1;", "!h1,1;", "h;!r", "h;!r2;", "!;", "!1;", "!H;", "!x;", "!x1,1;", "!T1;");
            faulty("h;r;!d", "h;r;!d1", "h;r;!d1,", "h;r;!d1,1", "h;r;!d;", "h;r;!d1;", "h;r;!d1,;", "h;r;!d,1;",
                "h;r;!d1,1,;", "h;r;!d1,1,1;", "h;r;!d1;1;", "h;r;!d1 1;", "h;r;!d 1,1;", "h;r;!d1,1 ;");
            faulty("!c", "!c;", "!c1,1", "!c1,1;", "!c1,1,0", "!c1,1,0,", "!c1,1,0,0;", "!c1,,0;", "!c,1,0;",
                "!c1.1.0;");
            faulty("!t", "!t;", "!t1", "!t1,", "!t1,;", "!t1,1;", "!t,1;");
        });
        says("A number has one or two digits.", () -> {
            faultless("t1;", "t01;", "t10;", "c01,02,00;", "h;r;d01,00;", "h;r;d1,99;", "h;r;d09,9;");
            faulty("!t;", "!t001;", "!t010;", "!t-1;", "!t+1;", "!t1.;", "!tx;", "!t1x;", "!t/;", "!t:;", "!t1/;",
                "!t1:;", "h;r;!d001,1;", "h;r;!d1,001;", "h;r;!d1,100;", "h;r;!d,1;", "!c001,1,0;", "!c1,001,0;",
                "!c1,1,000;", "!c1,1,;");
        });
    }

    private static void textItems() {
        says("The items are: h another hall; at most 3", () -> {
            faultless("h;h;h;");
            faulty("h;h;h;!h;");
            StrawMap x = of("h;h;h;r;d1,1;");
            are(row(x.count(0), x.node(0, 2), x.node(3, 0)), 3, 3, 1);
        });
        says("r another rack, below the hall given last (there has to be one);", () -> {
            faulty("!r;", "t1;!r;h;");
            StrawMap x = of("h;r;h;r;h;r;r;d1,1;");
            are(row(x.node(4, 1), x.node(5, 1), x.node(6, 1), x.node(7, 1)), 1, 2, 3, 3);
        });
        says("at most 6", () -> {
            faultless("h;r;r;r;r;r;r;", "h;r;r;h;r;r;h;r;r;");
            faulty("h;r;r;r;r;r;r;!r;", "h;r;r;h;r;r;h;r;r;!r;", "h;r;r;r;r;r;r;h;!r;");
        });
        says("dW,C another disk, below the rack given last (there has to be one),", () -> {
            faulty("!d1,1;", "h;!d1,1;", "h;h;h;!d1,1;r;");
            StrawMap x = of("h;r;d1,1;r;d1,1;d1,1;h;d1,1;r;d1,1;");
            are(row(x.node(10, 1), x.node(11, 1), x.node(12, 1), x.node(13, 1), x.node(14, 1)), 4, 5, 5, 5, 6);
        });
        says("with the weight W (0 to 40)", () -> {
            StrawMap x = of("h;r;d0,1;d40,1;d00,1;d04,1;");
            are(row(x.node(10, 0), x.node(11, 0), x.node(12, 0), x.node(13, 0)), 0, 40, 0, 4);
            faulty("h;r;!d41,1;", "h;r;!d99,1;", "h;r;d40,1;!d41,1;");
        });
        says("and the capacity 10 * C;", () -> {
            StrawMap x = of("h;r;d1,0;d1,1;d1,99;d1,00;d1,09;");
            are(row(x.node(10, 5), x.node(11, 5), x.node(12, 5), x.node(13, 5), x.node(14, 5)), 0, 10, 990, 0, 90);
        });
        says("at most 12", () -> {
            is(withText("h;r;" + "d1,1;".repeat(12)).lay(), 12);
            faulty("h;r;" + "d1,1;".repeat(12) + "!d1,1;", FULL_TREE + "!d0,0;");
        });
        says("cN,L,M the rule: N is 1 to 4,", () -> {
            faultless("c1,1,0;", "c4,1,0;");
            faulty("!c0,1,0;", "!c5,1,0;", "!c99,1,0;");
            are(row(of("h;r;d1,1;c1,1,0;").count(3), of("h;r;d1,1;c4,1,0;").count(3)), 1, 4);
        });
        says("L is 1 to 3,", () -> {
            faultless("c1,1,0;", "c1,3,0;");
            faulty("!c1,0,0;", "!c1,4,0;", "!c1,10,0;");
            are(row(of("h;r;d1,1;c1,1,0;").count(4), of("h;r;d1,1;c1,3,0;").count(4)), 1, 3);
        });
        says("the mode M is 0 or 1;", () -> {
            faultless("c1,1,0;", "c1,1,1;");
            faulty("!c1,1,2;", "!c1,1,10;", "!c1,1,99;");
            are(row(of("h;r;d1,1;c1,1,0;").count(5), of("h;r;d1,1;c1,1,1;").count(5)), 0, 1);
        });
        says("2, 2 and 0 if it is not given", () -> {
            StrawMap x = new StrawMap();
            x.rule(4, 3, 1);
            lay(x, "h;r;d1,1;");
            are(row(x.count(3), x.count(4), x.count(5)), 2, 2, 0);
        });
        says("tT the number of tries, 1 to 24;", () -> {
            faultless("t1;", "t24;");
            faulty("!t0;", "!t00;", "!t25;", "!t99;");
            are(row(of("h;r;d1,1;t1;").count(6), of("h;r;d1,1;t24;").count(6)), 1, 24);
        });
        says("20 if it is not given", () -> {
            StrawMap x = of("h;r;d1,1;t3;");
            is(x.count(6), 3);
            lay(x, "h;r;d1,1;");
            is(x.count(6), 20);
        });
    }

    private static void wholeTexts() {
        says("Of several items c, or t, the last one counts.", () -> {
            StrawMap x = of("t3;c1,1,1;h;c2,2,1;r;t4;d1,1;t24;c4,3,0;");
            are(row(x.count(3), x.count(4), x.count(5), x.count(6)), 4, 3, 0, 24);
            StrawMap y = of("c4,3,1;c1,2,0;t24;t1;h;r;d1,1;");
            are(row(y.count(3), y.count(4), y.count(5), y.count(6)), 1, 2, 0, 1);
            faulty("!c0,1,1;c1,1,1;", "!t0;t1;", "c1,1,1;!c5,1,1;", "t1;!t25;");
        });
        says("The fault of a text is the index of the first character of the first item that does not follow these"
            + " rules.", () -> {
            faulty("!x;x;", "h;!x;x;", "h;r;d1,1;!d41,1;d41,1;!", "!h", "h;r;d1,1;!d1,1", "h;h;h;!h;r;d99,1;");
            is(faultOf("t1;".repeat(66) + "t1"), 198);
            is(faultOf("t1;".repeat(66) + "tt"), 198);
            is(faultOf("t1;".repeat(66) + "h;"), NONE);
            is(faultOf("c1,01,1;".repeat(24) + "c1,01,1,"), 192);
            is(faultOf(";".repeat(200)), 0);
        });
        says("A text is complete if it has no fault and gives at least one disk.", () -> {
            is(withText("h;r;d0,0;").lay(), 1);
            all(NO, withText("").lay(), withText("h;").lay(), withText("h;r;").lay(), withText("c1,1,1;t1;").lay());
            all(NO, withText("h;r;d1,1;x").lay(), withText("h;r;d1,1;h").lay(), withText("xh;r;d1,1;").lay());
        });
        says("The map at the beginning is that of the text " + START, () -> {
            StrawMap x = new StrawMap();
            int[] weights = {4, 2, 3, 3, 5, 1, 6, 2, 8};
            int[] racks = {4, 4, 5, 5, 6, 6, 7, 8, 8};
            for (int i = 0; i < 9; i++) {
                are(row(x.node(10 + i, 0), x.node(10 + i, 1), x.node(10 + i, 5)), weights[i], racks[i], 90);
            }
            are(row(x.node(4, 1), x.node(5, 1), x.node(6, 1), x.node(7, 1), x.node(8, 1)), 1, 1, 2, 2, 3);
            are(row(x.count(0), x.count(1), x.count(2), x.count(3), x.count(4), x.count(5), x.count(6)),
                3, 5, 9, 3, 2, 0, 20);
        });
    }

    private static void promise1() {
        in("Promise 1");
        says("Creates a simulator with the map that is described at TEXTS, in epoch 1;", () ->
            alike(States::fresh, x -> {
                x.weigh(10, 9);
                x.fail(11);
                lay(x, START);
            }));
        says("the text is empty,", () -> {
            StrawMap x = new StrawMap();
            are(row(x.count(16), x.fault(), x.lay(), x.wipe(), x.write(104)), 0, NONE, NO, 0, 1);
        });
        says("and there are no observations.", () -> {
            StrawMap x = new StrawMap();
            are(row(x.count(15), x.weights(10, 0), x.forget()), 0, 41, 0);
        });
    }

    private static void promise2() {
        in("Promise 2");
        says("Appends a character to the text.", () -> {
            StrawMap x = withText("t");
            are(row(x.fault(), x.write('7'), x.fault(), x.write(';'), x.fault()), 0, 2, 0, 3, NONE);
        });
        says("`letter`: its code, 32 to 126", () -> {
            refusesAll(BAD, States::lived, new int[] {LOW, -1, 0, 31, 127, 128, 255, 256 + 'h', 65536 + 'h', HIGH},
                StrawMap::write);
            StrawMap x = new StrawMap();
            for (int letter = 32; letter <= 126; letter++) {
                is(x.write(letter), letter - 31);
            }
        });
        says("Returns how many characters the text has then;", () -> {
            StrawMap x = new StrawMap();
            for (int i = 1; i <= 200; i++) {
                is(x.write('t'), i);
            }
            is(x.count(16), 200);
        });
        says("errors: BAD; FULL if it has 200.", () -> {
            StrawMap x = withText("h;r;d1,1;" + "t2;".repeat(63) + "t");
            are(row(x.count(16), x.write('1')), 199, 200);
            State full = y -> write(y, "h;r;d7,1;" + "t2;".repeat(61) + "t002;t4;");
            refuses(FULL, full, y -> y.write('t'), y -> y.write(';'), y -> y.write(32), y -> y.write(126));
            refuses(BAD, full, y -> y.write(31), y -> y.write(127), y -> y.write(LOW), y -> y.write(HIGH));
        });
    }

    private static void promise3() {
        in("Promise 3");
        says("Empties the text.", () -> {
            StrawMap x = withText("h;r;d1,1;");
            x.wipe();
            are(row(x.count(16), x.fault(), x.lay(), x.write('!'), x.fault()), 0, NONE, NO, 1, 0);
            alike(States::fresh, y -> {
                write(y, "xyz");
                y.wipe();
            });
        });
        says("Returns how many characters it had.", () -> {
            StrawMap x = new StrawMap();
            are(row(x.wipe(), x.write('h'), x.wipe(), x.wipe()), 0, 1, 1, 0);
            write(x, "t".repeat(201));
            are(row(x.wipe(), x.wipe(), x.write('t')), 200, 0, 1);
        });
    }

    private static void promise4() {
        in("Promise 4");
        says("Returns the fault of the text;", () -> {
            are(row(faultOf("x"), faultOf("h;x"), faultOf("h;r;d41,1;"), faultOf("t1;".repeat(66) + "t1")),
                0, 2, 4, 198);
            changesNothing(States::lived, StrawMap::fault);
            changesNothing(x -> write(x, "h;r;d1,1;"), StrawMap::fault);
        });
        says("NONE if it has none (also if it is not complete).", () ->
            all(NONE, faultOf(""), faultOf("h;"), faultOf("h;r;"), faultOf("t1;"), faultOf("h;r;d1,1;"),
                faultOf(FULL_TREE)));
    }

    private static void promise5() {
        in("Promise 5");
        says("Reads the text as the map.", () -> {
            StrawMap x = new StrawMap();
            lived(x);
            lay(x, "h;h;r;d3,7;d40,0;c1,3,1;t9;");
            are(row(x.count(0), x.count(1), x.count(2), x.count(3), x.count(4), x.count(5), x.count(6), x.count(7),
                x.count(11)), 2, 1, 2, 1, 3, 1, 9, 0, 0);
            are(row(x.node(10, 0), x.node(10, 3), x.node(10, 4), x.node(10, 5), x.node(11, 0), x.node(4, 1),
                x.node(12, 0), x.node(5, 0), x.node(3, 0)), 3, 16, 0, 70, 40, 2, BAD, BAD, BAD);
        });
        says("The epoch is 1, no other epoch is known,", () -> {
            StrawMap x = new StrawMap();
            lived(x);
            lay(x, "h;r;d1,1;");
            are(row(x.count(8), x.count(9), x.old(0, 0, 0), x.old(2, 0, 0), x.since(2, 0), x.back(2), x.back(0)),
                1, 1, NONE, NONE, NONE, BAD, BAD);
            is(x.weigh(10, 2), 1);
            are(row(x.count(8), x.count(9), x.old(1, 0, 0), x.old(3, 0, 0), x.back(3)), 2, 2, 10, NONE, BAD);
        });
        says("the data begin anew (see DATA),", () -> {
            StrawMap x = new StrawMap();
            lived(x);
            lay(x, START);
            for (int g = 0; g < 16; g++) {
                are(row(x.held(g, 0), x.held(g, 1)), set(x.place(g, 0), x.place(g, 1), x.place(g, 2)), 0);
            }
            are(row(x.count(10), x.count(12), x.count(13), x.count(14)), 9, 0, 0, 0);
        });
        says("and there are no observations.", () -> {
            StrawMap x = new StrawMap();
            x.seen(0, 10, 1);
            x.seen(0, 10, 0);
            is(x.weights(10, 0), 0);
            lay(x, START);
            are(row(x.count(15), x.weights(10, 0), x.seen(0, 10, 1)), 0, 41, 1);
        });
        says("The text stays.", () -> {
            StrawMap x = withText("h;r;d5,1;");
            are(row(x.lay(), x.count(16), x.lay(), x.write('d'), x.fault(), x.lay()), 1, 9, 1, 10, 9, NO);
            write(x, "7,1;");
            are(row(x.lay(), x.node(11, 0), x.wipe()), 2, 7, 14);
        });
        says("Returns the number of disks;", () ->
            are(row(withText("h;r;d1,1;").lay(), withText(FULL_TREE).lay(), withText(START).lay()), 1, 12, 9));
        says("errors: NO if the text is not complete.", () -> {
            for (String text : new String[] {"", "h;", "h;r;", "x", "h;r;d1,1;d", "h;r;d41,1;"}) {
                refuses(NO, x -> {
                    lived(x);
                    x.wipe();
                    write(x, text);
                }, StrawMap::lay, StrawMap::lay);
            }
        });
    }

    private static void promise6() {
        in("Promise 6");
        says("Returns a property of a node.", () ->
            changesNothing(States::lived, x -> x.node(10, 0), x -> x.node(10, 6)));
        says("`n`: a node", () -> {
            refusesAll(BAD, States::lived, NO_NODES, (x, n) -> x.node(n, 0));
            refusesAll(BAD, States::lived, NO_NODES, (x, n) -> x.node(n, 2));
            refusesAll(BAD, States::lived, NO_NODES, (x, n) -> x.node(n, 6));
            StrawMap x = new StrawMap();
            are(row(x.node(0, 0), x.node(1, 0), x.node(3, 0), x.node(4, 0), x.node(8, 0), x.node(10, 0), x.node(18, 0)),
                34, 12, 10, 6, 10, 4, 8);
        });
        says("`what`: 0 its weight;", () -> {
            StrawMap x = of("h;r;d0,1;h;r;d40,1;");
            are(row(x.node(10, 0), x.node(4, 0), x.node(11, 0), x.node(5, 0), x.node(0, 0)), 0, 0, 40, 40, 40);
        });
        says("1 the node above it, NONE for the root;", () -> {
            StrawMap x = of(FULL_TREE);
            are(row(x.node(0, 1), x.node(1, 1), x.node(3, 1), x.node(4, 1), x.node(9, 1), x.node(10, 1), x.node(21, 1)),
                NONE, 0, 0, 1, 3, 4, 9);
        });
        says("2 how many nodes are directly below it;", () -> {
            StrawMap x = of("h;r;" + "d1,1;".repeat(12) + "h;h;r;r;r;r;r;");
            are(row(x.node(0, 2), x.node(1, 2), x.node(2, 2), x.node(3, 2), x.node(4, 2), x.node(5, 2), x.node(10, 2),
                x.node(21, 2)), 3, 1, 0, 5, 12, 0, 0, 0);
            is(of("h;r;r;r;r;r;r;d1,1;").node(1, 2), 6);
        });
        says("for disks only: 3 the reweight;", () -> {
            StrawMap x = new StrawMap();
            x.reweigh(10, 0);
            x.reweigh(11, 1);
            are(row(x.node(10, 3), x.node(11, 3), x.node(12, 3)), 0, 1, 16);
        });
        says("4 whether it is full (1 or 0);", () -> {
            StrawMap x = of("h;r;d1,0;d1,1;");
            is(x.node(10, 4), 0);
            x.refill();
            are(row(x.node(10, 4), x.node(11, 4)), 1, 0);
        });
        says("5 the capacity;", () -> {
            StrawMap x = of("h;r;d1,0;d1,99;");
            are(row(x.node(10, 5), x.node(11, 5)), 0, 990);
        });
        says("6 whether it is up (1 or 0)", () -> {
            StrawMap x = new StrawMap();
            x.up(10, 0);
            x.fail(11);
            are(row(x.node(10, 6), x.node(11, 6), x.node(12, 6)), 0, 0, 1);
        });
        says("Returns it; errors: BAD, also if what is 3 to 6 and the node is no disk.", () -> {
            StrawMap x = new StrawMap();
            for (int n : new int[] {0, 1, 3, 4, 8}) {
                holds(x.node(n, 2) > 0);
                all(BAD, x.node(n, 3), x.node(n, 4), x.node(n, 5), x.node(n, 6));
            }
            for (int n : new int[] {0, 1, 4, 10, 18}) {
                all(BAD, x.node(n, -1), x.node(n, 7), x.node(n, LOW), x.node(n, HIGH));
            }
            are(row(x.node(10, 3), x.node(18, 6)), 16, 1);
        });
    }

    private static void promise7() {
        in("Promise 7");
        says("Returns a property of an override.", () ->
            changesNothing(States::lived, x -> x.override(0, 0), x -> x.override(1, 3)));
        says("`i`: an override", () -> {
            refusesAll(BAD, States::lived, new int[] {LOW, -1, 2, 5, 6, HIGH}, (x, i) -> x.override(i, 0));
            refusesAll(BAD, States::fresh, new int[] {-1, 0, 1}, (x, i) -> x.override(i, 3));
            StrawMap x = new StrawMap();
            lived(x);
            are(row(x.override(0, 0), x.override(1, 0)), 5, 0);
        });
        says("`what`: 0 its group; 1 \"from\"; 2 \"to\";", () -> {
            StrawMap x = new StrawMap();
            x.divert(0, 10, 18);
            x.divert(15, 18, 10);
            are(row(x.override(0, 0), x.override(0, 1), x.override(0, 2)), 0, 10, 18);
            are(row(x.override(1, 0), x.override(1, 1), x.override(1, 2)), 15, 18, 10);
        });
        says("3 whether it has an effect now (1 or 0)", () -> {
            // Group 0 is on 12, 18 and 10.
            StrawMap x = new StrawMap();
            x.divert(0, 13, 12);
            x.divert(0, 12, 13);
            are(row(x.override(0, 3), x.override(1, 3)), 0, 1);
            x.lift(1);
            x.divert(0, 12, 18);
            are(row(x.override(0, 3), x.override(1, 3)), 0, 0);
            x.reweigh(12, 0);
            x.divert(0, 10, 11);
            int before = x.override(2, 3);
            x.weigh(10, 0);
            x.weigh(11, 0);
            are(row(before, x.override(2, 3)), 1, 0);
        });
        says("Returns it; errors: BAD.", () -> {
            refuses(BAD, States::lived, x -> x.override(0, -1), x -> x.override(0, 4), x -> x.override(1, LOW),
                x -> x.override(1, HIGH));
            StrawMap x = new StrawMap();
            x.divert(3, 16, 12);
            are(row(x.override(0, 0), x.override(0, 3)), 3, 1);
        });
    }

    /** The call changes the map: the epoch grows by 1. */
    private static void changesTheMap(StrawMap x, Call change) {
        int before = x.count(8);
        int known = x.count(9);
        int place = x.place(0, 0);
        holds(change.on(x) >= 0);
        are(row(x.count(8), x.count(9), x.old(before, 0, 0)), before + 1, Math.min(5, known + 1), place);
    }

    private static void promise8() {
        in("Promise 8");
        says("Sets the weight of a disk.", () -> {
            StrawMap x = new StrawMap();
            x.weigh(10, 40);
            are(row(x.node(10, 0), x.node(4, 0), x.node(1, 0), x.node(0, 0), x.node(11, 0)), 40, 42, 48, 70, 2);
            x.weigh(10, 0);
            are(row(x.node(10, 0), x.node(4, 0), x.node(0, 0), x.groups(10)), 0, 2, 30, 0);
        });
        says("This is a change of the map.", () -> changesTheMap(new StrawMap(), x -> x.weigh(10, 5)));
        says("`d`: a disk", () -> {
            refusesAll(BAD, States::lived, NO_DISKS, (x, d) -> x.weigh(d, 5));
            StrawMap x = of(FULL_TREE);
            are(row(x.weigh(10, 40), x.weigh(21, 40), x.weigh(22, 40)), 1, 12, BAD);
        });
        says("`w`: 0 to 40", () -> {
            refusesAll(BAD, States::lived, new int[] {LOW, -1, 41, HIGH}, (x, w) -> x.weigh(10, w));
            StrawMap x = new StrawMap();
            are(row(x.weigh(10, 0), x.weigh(10, 40), x.weigh(10, 39), x.weigh(10, 1)), 4, 0, 40, 39);
        });
        says("Returns the weight before the call;", () -> {
            StrawMap x = new StrawMap();
            are(row(x.weigh(18, 0), x.weigh(18, 40), x.weigh(18, 8)), 8, 0, 40);
        });
        says("errors: BAD; NO if it has this weight already.", () -> {
            refuses(NO, States::lived, x -> x.weigh(10, 7), x -> x.weigh(18, 8));
            StrawMap x = new StrawMap();
            are(row(x.weigh(10, 0), x.weigh(10, 0), x.weigh(10, 40), x.weigh(10, 40), x.weigh(10, 41), x.count(8)),
                4, NO, 0, NO, BAD, 3);
        });
    }

    private static void promise9() {
        in("Promise 9");
        says("Sets the reweight of a disk.", () -> {
            StrawMap x = new StrawMap();
            x.reweigh(18, 0);
            are(row(x.node(18, 3), x.node(18, 0), x.groups(18), x.node(17, 3)), 0, 8, 0, 16);
            x.reweigh(18, 16);
            are(row(x.node(18, 3), x.since(1, 2)), 16, 65535);
        });
        says("This is a change of the map.", () -> changesTheMap(new StrawMap(), x -> x.reweigh(10, 5)));
        says("`d`: a disk", () -> {
            refusesAll(BAD, States::lived, NO_DISKS, (x, d) -> x.reweigh(d, 5));
            StrawMap x = of(FULL_TREE);
            are(row(x.reweigh(10, 5), x.reweigh(21, 5), x.reweigh(22, 5)), 16, 16, BAD);
        });
        says("`r`: 0 to 16", () -> {
            refusesAll(BAD, States::lived, new int[] {LOW, -1, 17, HIGH}, (x, r) -> x.reweigh(10, r));
            StrawMap x = new StrawMap();
            are(row(x.reweigh(10, 0), x.reweigh(10, 16), x.reweigh(10, 15)), 16, 0, 16);
        });
        says("Returns the reweight before the call;", () -> {
            StrawMap x = new StrawMap();
            are(row(x.reweigh(18, 1), x.reweigh(18, 0), x.reweigh(18, 9)), 16, 1, 0);
        });
        says("errors: BAD; NO if it has this reweight already.", () -> {
            refuses(NO, States::lived, x -> x.reweigh(14, 9), x -> x.reweigh(10, 16));
            StrawMap x = new StrawMap();
            are(row(x.reweigh(10, 16), x.reweigh(10, 0), x.reweigh(10, 0), x.reweigh(10, 17), x.count(8)),
                NO, 16, NO, BAD, 2);
        });
    }

    private static void promise10() {
        in("Promise 10");
        says("Makes exactly those disks full whose load is at least their capacity.", () -> {
            // All groups are on disk 10 alone, whose capacity is 90.
            StrawMap x = of("h;r;d1,9;c1,3,0;");
            x.put(keyOf(0), 89);
            are(row(x.refill(), x.node(10, 4)), NO, 0);
            x.put(keyOf(7), 1);
            are(row(x.refill(), x.node(10, 4), x.groups(10)), 1, 1, 0);
            StrawMap over = of("h;r;d1,9;c1,3,0;");
            over.put(keyOf(0), 91);
            are(row(over.refill(), over.node(10, 4)), 1, 1);
            StrawMap nothing = of("h;r;d1,0;d1,1;d1,0;c1,3,0;");
            are(row(nothing.refill(), nothing.node(10, 4), nothing.node(11, 4), nothing.node(12, 4)), 2, 1, 0, 1);
            StrawMap great = of("h;r;d1,99;c1,3,0;");
            for (int i = 0; i < 10; i++) {
                great.put(keyOf(i), i == 0 ? 98 : 99);
            }
            are(row(great.load(10, 0), great.refill(), great.put(keyOf(0), 1), great.refill()), 989, NO, 99, 1);
        });
        says("This is a change of the map.", () -> changesTheMap(of("h;r;d1,0;"), StrawMap::refill));
        says("Returns how many disks have become full or are not full any more;", () -> {
            StrawMap x = of("h;r;d1,0;d1,0;");
            is(x.refill(), 2);
            // Group 3 is on 16, 14 and 18.
            StrawMap y = new StrawMap();
            y.put(keyOf(3), 90);
            is(y.refill(), 3);
            y.fail(16);
            y.put(keyOf(13), 99);
            int filled = 0;
            int emptied = 0;
            for (int d = 10; d <= 18; d++) {
                filled += y.load(d, 0) >= 90 && y.node(d, 4) == 0 ? 1 : 0;
                emptied += y.load(d, 0) < 90 && y.node(d, 4) == 1 ? 1 : 0;
            }
            holds(filled > 0 && emptied > 0);
            is(y.refill(), filled + emptied);
            is(y.count(11), 3 + filled - emptied);
        });
        says("errors: NO if there are none.", () -> {
            refuses(NO, States::fresh, StrawMap::refill);
            refuses(NO, x -> {
                lived(x);
                x.refill();
            }, StrawMap::refill, StrawMap::refill);
        });
    }

    private static void sixOverrides(StrawMap x) {
        for (int g = 0; g < 6; g++) {
            is(x.divert(g, 10, 11 + g), g + 1);
        }
    }

    private static void promise11() {
        in("Promise 11");
        says("Adds an override.", () -> {
            StrawMap x = new StrawMap();
            x.divert(5, 10, 11);
            x.divert(5, 12, 13);
            are(row(x.override(0, 1), x.override(1, 1), x.place(5, 2), x.place(5, 1)), 10, 12, 11, 13);
        });
        says("This is a change of the map.", () -> {
            changesTheMap(new StrawMap(), x -> x.divert(5, 10, 11));
            changesTheMap(new StrawMap(), x -> x.divert(5, 11, 10));
        });
        says("`g`: a group, 0 to 15", () -> {
            refusesAll(BAD, States::lived, NO_GROUPS, (x, g) -> x.divert(g, 10, 11));
            StrawMap x = new StrawMap();
            are(row(x.divert(0, 10, 11), x.divert(15, 10, 11), x.divert(16, 10, 11), x.divert(-1, 10, 11)),
                1, 2, BAD, BAD);
        });
        says("`from`: a disk", () -> {
            refusesAll(BAD, States::lived, NO_DISKS, (x, d) -> x.divert(1, d, 11));
            StrawMap x = of(FULL_TREE);
            are(row(x.divert(1, 10, 11), x.divert(1, 21, 11), x.divert(1, 22, 11)), 1, 2, BAD);
        });
        says("`to`: another disk", () -> {
            refusesAll(BAD, States::lived, NO_DISKS, (x, d) -> x.divert(1, 11, d));
            StrawMap x = of(FULL_TREE);
            are(row(x.divert(1, 11, 10), x.divert(1, 11, 21), x.divert(1, 11, 22), x.divert(1, 11, 11)),
                1, 2, BAD, BAD);
        });
        says("Returns how many overrides there are then;", () -> {
            StrawMap x = new StrawMap();
            are(row(x.divert(0, 10, 11), x.divert(0, 10, 12), x.divert(0, 11, 10), x.divert(1, 10, 11),
                x.divert(2, 10, 11), x.divert(3, 10, 11)), 1, 2, 3, 4, 5, 6);
        });
        says("errors: BAD, also if from equals to;", () -> {
            refuses(BAD, States::lived, x -> x.divert(0, 10, 10), x -> x.divert(15, 18, 18));
            refuses(BAD, MapSentences::sixOverrides, x -> x.divert(0, 10, 10), x -> x.divert(16, 10, 11));
        });
        says("NO if there is the same override already;", () -> {
            refuses(NO, States::lived, x -> x.divert(5, 17, 18), x -> x.divert(0, 12, 13));
            refuses(NO, MapSentences::sixOverrides, x -> x.divert(0, 10, 11), x -> x.divert(5, 10, 16));
            StrawMap x = new StrawMap();
            are(row(x.divert(5, 10, 11), x.divert(5, 11, 10), x.divert(6, 10, 11), x.divert(5, 10, 12),
                x.divert(5, 10, 11)), 1, 2, 3, 4, NO);
            are(row(x.lift(0), x.divert(5, 10, 11)), 3, 4);
        });
        says("FULL if there are 6.", () -> {
            refuses(FULL, MapSentences::sixOverrides, x -> x.divert(6, 10, 11), x -> x.divert(0, 11, 10));
            StrawMap x = new StrawMap();
            sixOverrides(x);
            are(row(x.divert(9, 10, 11), x.lift(5), x.divert(9, 10, 11), x.divert(8, 10, 11)), FULL, 5, 6, FULL);
        });
    }

    private static void promise12() {
        in("Promise 12");
        says("Removes an override.", () -> {
            StrawMap x = new StrawMap();
            x.divert(5, 10, 11);
            is(x.place(5, 2), 11);
            x.lift(0);
            are(row(x.place(5, 2), x.count(7), x.override(0, 0)), 10, 0, BAD);
        });
        says("The numbers of those behind it decrease by 1.", () -> {
            for (int gone : new int[] {0, 3, 5}) {
                StrawMap x = new StrawMap();
                sixOverrides(x);
                is(x.lift(gone), 5);
                for (int i = 0; i < 5; i++) {
                    int g = i < gone ? i : i + 1;
                    are(row(x.override(i, 0), x.override(i, 1), x.override(i, 2)), g, 10, 11 + g);
                }
                is(x.override(5, 0), BAD);
            }
        });
        says("This is a change of the map.", () -> {
            StrawMap x = new StrawMap();
            x.divert(0, 11, 10);
            changesTheMap(x, y -> y.lift(0));
        });
        says("`i`: an override", () -> {
            refusesAll(BAD, States::lived, new int[] {LOW, -1, 2, 5, 6, HIGH}, StrawMap::lift);
            StrawMap x = new StrawMap();
            lived(x);
            are(row(x.lift(1), x.lift(1), x.lift(0)), 1, BAD, 0);
        });
        says("Returns how many are left; errors: BAD.", () -> {
            StrawMap x = new StrawMap();
            sixOverrides(x);
            are(row(x.lift(6), x.lift(5), x.lift(0), x.lift(0), x.lift(0), x.lift(0), x.lift(0), x.lift(0)),
                BAD, 5, 4, 3, 2, 1, 0, BAD);
            refuses(BAD, States::fresh, y -> y.lift(0), y -> y.lift(-1));
        });
    }

    private static void promise13() {
        in("Promise 13");
        says("Sets the rule.", () -> {
            StrawMap x = new StrawMap();
            x.rule(1, 1, 1);
            are(row(x.count(3), x.count(4), x.count(5), x.place(0, 0), x.place(0, 1)), 1, 1, 1, 12, NONE);
        });
        says("This is a change of the map.", () -> changesTheMap(new StrawMap(), x -> x.rule(3, 2, 1)));
        says("`n`: the number of copies, 1 to 4", () -> {
            refusesAll(BAD, States::lived, new int[] {LOW, -1, 0, 5, HIGH}, (x, n) -> x.rule(n, 1, 1));
            StrawMap x = new StrawMap();
            are(row(x.rule(1, 1, 1), x.rule(4, 1, 1), x.count(3)), 320, 111, 4);
        });
        says("`l`: the level, 1 to 3", () -> {
            refusesAll(BAD, States::lived, new int[] {LOW, -1, 0, 4, 12, HIGH}, (x, l) -> x.rule(2, l, 1));
            StrawMap x = new StrawMap();
            are(row(x.rule(2, 1, 1), x.rule(2, 3, 1), x.count(4)), 320, 211, 3);
        });
        says("`m`: the mode, 0 or 1", () -> {
            refusesAll(BAD, States::lived, new int[] {LOW, -1, 2, 10, HIGH}, (x, m) -> x.rule(2, 1, m));
            StrawMap x = new StrawMap();
            are(row(x.rule(2, 1, 1), x.rule(2, 1, 0), x.count(5)), 320, 211, 0);
        });
        says("Returns 100 * N + 10 * L + mode before the call;", () -> {
            StrawMap x = new StrawMap();
            are(row(x.rule(1, 1, 0), x.rule(4, 3, 1), x.rule(3, 2, 0)), 320, 110, 431);
        });
        says("errors: BAD; NO if it is this rule already.", () -> {
            refuses(NO, States::lived, x -> x.rule(3, 2, 0));
            // 100 * N + 10 * L + M of the present rule, but out of range
            refuses(BAD, States::lived, x -> x.rule(3, 1, 10), x -> x.rule(2, 12, 0), x -> x.rule(3, 0, 20));
            StrawMap x = new StrawMap();
            are(row(x.rule(3, 2, 1), x.rule(3, 2, 1), x.rule(3, 1, 1), x.rule(2, 1, 1), x.rule(2, 1, 1), x.count(8)),
                320, NO, 321, 311, NO, 4);
        });
    }

    private static void promise14() {
        in("Promise 14");
        says("Adds a rack.", () -> {
            StrawMap x = new StrawMap();
            x.rack(3);
            are(row(x.node(9, 0), x.node(9, 1), x.node(9, 2), x.node(3, 2), x.count(1), x.since(1, 2)),
                0, 3, 0, 2, 6, 65535);
        });
        says("This is a change of the map.", () -> changesTheMap(new StrawMap(), x -> x.rack(1)));
        says("`h`: the hall", () -> {
            refusesAll(BAD, States::lived, NO_HALLS, StrawMap::rack);
            is(new StrawMap().rack(1), 9);
            is(new StrawMap().rack(3), 9);
            refuses(BAD, x -> lay(x, "h;r;d1,1;"), x -> x.rack(2), x -> x.rack(3), x -> x.rack(0));
            is(of("h;r;d1,1;").rack(1), 5);
        });
        says("Returns the number of the rack;", () -> {
            StrawMap x = of("h;r;d1,1;");
            are(row(x.rack(1), x.rack(1), x.rack(1), x.rack(1), x.rack(1)), 5, 6, 7, 8, 9);
        });
        says("errors: BAD; FULL if there are 6 racks.", () -> {
            State full = x -> {
                lived(x);
                is(x.rack(2), 9);
            };
            refuses(FULL, full, x -> x.rack(1), x -> x.rack(3));
            refuses(BAD, full, x -> x.rack(0), x -> x.rack(4), x -> x.rack(9), x -> x.rack(LOW), x -> x.rack(HIGH));
            is(of(FULL_TREE).rack(1), FULL);
        });
    }

    private static void promise15() {
        in("Promise 15");
        says("Adds a disk, which is up and holds nothing.", () -> {
            StrawMap x = new StrawMap();
            for (int d = 10; d <= 18; d++) {
                x.up(d, 0);
            }
            x.disk(8, 40, 9);
            are(row(x.node(19, 6), x.count(10), x.load(19, 0), x.count(2), x.node(8, 2)), 1, 1, 0, 10, 3);
            holds(x.groups(19) != 0);
            for (int g = 0; g < 16; g++) {
                is(x.held(g, 0) & bit(19), 0);
            }
        });
        says("This is a change of the map.", () -> changesTheMap(new StrawMap(), x -> x.disk(8, 0, 0)));
        says("`r`: the rack", () -> {
            refusesAll(BAD, States::lived, NO_RACKS, (x, r) -> x.disk(r, 1, 1));
            StrawMap x = new StrawMap();
            are(row(x.disk(4, 1, 1), x.disk(8, 1, 1), x.node(19, 1), x.node(20, 1)), 19, 20, 4, 8);
            x = new StrawMap();
            are(row(x.disk(9, 1, 1), x.rack(1), x.disk(9, 1, 1)), BAD, 9, 19);
        });
        says("`w`: its weight, 0 to 40", () -> {
            refusesAll(BAD, States::lived, new int[] {LOW, -1, 41, HIGH}, (x, w) -> x.disk(4, w, 1));
            StrawMap x = new StrawMap();
            are(row(x.disk(4, 0, 1), x.disk(4, 40, 1), x.node(19, 0), x.node(20, 0)), 19, 20, 0, 40);
        });
        says("`c`: a tenth of its capacity, 0 to 99", () -> {
            refusesAll(BAD, States::lived, new int[] {LOW, -1, 100, HIGH}, (x, c) -> x.disk(4, 1, c));
            StrawMap x = new StrawMap();
            are(row(x.disk(4, 1, 0), x.disk(4, 1, 99), x.node(19, 5), x.node(20, 5)), 19, 20, 0, 990);
        });
        says("Returns the number of the disk;", () -> {
            StrawMap x = new StrawMap();
            are(row(x.disk(4, 1, 1), x.disk(5, 1, 1), x.disk(4, 1, 1)), 19, 20, 21);
            is(of("h;r;d1,1;").disk(4, 1, 1), 11);
        });
        says("errors: BAD; FULL if there are 12 disks.", () -> {
            State full = x -> {
                lived(x);
                x.disk(4, 1, 1);
                x.disk(4, 1, 1);
                is(x.disk(4, 1, 1), 21);
            };
            refuses(FULL, full, x -> x.disk(4, 1, 1), x -> x.disk(8, 0, 0), x -> x.disk(8, 40, 99));
            refuses(BAD, full, x -> x.disk(9, 1, 1), x -> x.disk(4, 41, 1), x -> x.disk(4, 1, 100),
                x -> x.disk(4, -1, 1), x -> x.disk(4, 1, -1));
            is(of(FULL_TREE).disk(9, 1, 1), FULL);
        });
    }

    private static void promise16() {
        in("Promise 16");
        says("Moves a rack to another hall, or a disk to another rack.", () -> {
            StrawMap x = new StrawMap();
            is(x.move(8, 1), 3);
            are(row(x.node(8, 1), x.node(1, 0), x.node(1, 2), x.node(3, 0), x.node(3, 2), x.node(18, 1), x.node(0, 0)),
                1, 22, 3, 0, 0, 8, 34);
            is(x.move(16, 4), 7);
            are(row(x.node(16, 1), x.node(4, 0), x.node(4, 2), x.node(7, 0), x.node(7, 2), x.node(2, 0)),
                4, 12, 3, 0, 0, 6);
        });
        says("This is a change of the map.", () -> {
            changesTheMap(new StrawMap(), x -> x.move(10, 5));
            changesTheMap(new StrawMap(), x -> x.move(4, 2));
        });
        says("`n`: a rack or a disk", () -> {
            int[] neither = {LOW, -1, 0, 1, 2, 3, 9, 19, 22, HIGH};
            refusesAll(BAD, States::lived, neither, (x, n) -> x.move(n, 1));
            refusesAll(BAD, States::lived, neither, (x, n) -> x.move(n, 4));
            refusesAll(BAD, States::lived, neither, (x, n) -> x.move(n, 0));
            StrawMap x = new StrawMap();
            are(row(x.move(4, 2), x.move(8, 2), x.move(10, 8), x.move(18, 4)), 1, 3, 4, 8);
        });
        says("`m`: a hall if n is a rack, a rack if n is a disk", () -> {
            refusesAll(BAD, States::lived, NO_HALLS, (x, m) -> x.move(4, m));
            refusesAll(BAD, States::lived, NO_RACKS, (x, m) -> x.move(10, m));
            refuses(BAD, States::lived, x -> x.move(4, 5), x -> x.move(4, 4), x -> x.move(10, 10), x -> x.move(10, 1));
            StrawMap x = new StrawMap();
            are(row(x.move(8, 1), x.move(4, 3), x.move(10, 5), x.move(10, 8)), 3, 1, 4, 5);
        });
        says("Returns the node above it before the call;", () -> {
            StrawMap x = new StrawMap();
            are(row(x.move(10, 8), x.move(10, 4), x.move(4, 3), x.move(4, 1)), 4, 8, 1, 3);
        });
        says("errors: BAD; NO if it is there already.", () -> {
            refuses(NO, States::lived, x -> x.move(10, 4), x -> x.move(11, 6), x -> x.move(18, 8), x -> x.move(4, 1),
                x -> x.move(8, 3));
            // They are there already, but the root and the halls cannot be moved.
            refuses(BAD, States::lived, x -> x.move(1, 0), x -> x.move(3, 0), x -> x.move(0, NONE));
        });
    }

    private static void promise17() {
        in("Promise 17");
        says("Makes the map of a known epoch the present one again, as the map of a new epoch.", () -> {
            StrawMap x = new StrawMap();
            x.weigh(10, 40);
            x.reweigh(11, 3);
            x.rule(1, 1, 1);
            x.divert(0, 12, 13);
            are(row(x.back(1), x.node(10, 0), x.node(11, 3), x.count(3), x.count(7), x.since(6, 2)),
                6, 4, 16, 3, 0, 65535);
            are(row(x.back(5), x.node(10, 0), x.node(11, 3), x.count(3), x.count(7), x.override(0, 2)),
                7, 40, 3, 1, 1, 13);
            StrawMap y = of("h;r;d1,0;d1,9;");
            y.put(keyOf(0), 5);
            y.refill();
            y.up(11, 0);
            are(row(y.count(11), y.back(1), y.count(11), y.held(0, 1), y.node(11, 6)), 1, 3, 0, 5, 0);
        });
        says("This is a change of the map.", () -> {
            StrawMap x = new StrawMap();
            x.weigh(10, 5);
            changesTheMap(x, y -> y.back(1));
            // The effect of an override is that by the map that is present again.
            StrawMap y = new StrawMap();
            y.divert(0, 12, 13);
            y.reweigh(13, 0);
            are(row(y.override(0, 3), y.back(2), y.override(0, 3), y.back(3), y.override(0, 3)), 0, 4, 1, 5, 0);
        });
        says("`epoch`: an epoch", () -> {
            StrawMap x = new StrawMap();
            for (int w = 11; w <= 14; w++) {
                x.weigh(10, w);
            }
            are(row(x.back(1), x.node(10, 0), x.back(1), x.back(2), x.node(10, 0)), 6, 4, BAD, 7, 11);
        });
        says("Returns the new epoch;", () -> {
            StrawMap x = new StrawMap();
            x.weigh(10, 5);
            are(row(x.back(1), x.back(2), x.back(1), x.count(8)), 3, 4, 5, 5);
        });
        says("errors: BAD if this epoch is not known;", () -> {
            refusesAll(BAD, States::fresh, new int[] {LOW, -1, 0, 2, 6, HIGH}, StrawMap::back);
            State eight = x -> {
                lived(x);
                is(x.count(8), 8);
            };
            refusesAll(BAD, eight, new int[] {LOW, -3, -1, 0, 1, 3, 9, 13, HIGH}, StrawMap::back);
            for (int epoch = 4; epoch <= 7; epoch++) {
                StrawMap x = new StrawMap();
                lived(x);
                is(x.back(epoch), 9);
            }
        });
        says("NO if it is the present one,", () -> {
            refuses(NO, States::fresh, x -> x.back(1));
            refuses(NO, States::lived, x -> x.back(8));
        });
        says("or its map has fewer racks", () -> {
            refuses(NO, x -> {
                lived(x);
                x.rack(1);
            }, x -> x.back(8), x -> x.back(5));
            StrawMap x = new StrawMap();
            x.rack(1);
            x.weigh(10, 5);
            are(row(x.back(1), x.back(2), x.count(1)), NO, 4, 6);
        });
        says("or fewer disks than the present one.", () -> {
            refuses(NO, x -> {
                lived(x);
                x.disk(4, 1, 1);
            }, x -> x.back(8), x -> x.back(5));
            StrawMap x = new StrawMap();
            x.disk(4, 1, 1);
            x.weigh(10, 5);
            are(row(x.back(1), x.back(2), x.count(2)), NO, 4, 10);
        });
    }
}
