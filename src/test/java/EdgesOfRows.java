/** What the document says of rows and drag pictures, promises 18 to 29. */
final class EdgesOfRows {
    private static final int NONE = Edges.NONE, UNKNOWN = Edges.UNKNOWN, OUTSIDE = Edges.OUTSIDE;
    private static final int STATE = Edges.STATE, FULL = Edges.FULL;
    private static final int STIRRED = Edges.STIRRED, AGAINST = Edges.AGAINST, TURNED = Edges.TURNED;
    private static final String LONGEST = "7*60,7*60,7*60,7*60,7*60,7*60";

    private final Said said;

    EdgesOfRows(Said said) {
        this.said = said;
    }

    void all() {
        runInTerms();
        itemsInTerms();
        restInTerms();
        lineInTerms();
        wantInTerms();
        foundInTerms();
        seenInTerms();
        tellsInTerms();
        picturesInTerms();
        endsAndLies();
        line();
        want();
        off();
        found();
        foundTwelveTimes();
        seen();
        readAndTells();
        apart();
        picture();
        drag();
    }

    /**
     * Stirring (0) goes on for ever here. Turning (1) for so many ticks from still water sends a leaf
     * without stick a ring less than so many outwards, for the floor goes 9 first, then 10; two rests end it.
     */
    private static LeavesInCups turning(String... rows) {
        LeavesInCups x = Made.withCup("r6h2f9w0m0");
        x.doing(STIRRED, 10);
        x.doing(TURNED, 10);
        for (String row : rows) {
            Made.row(x, row);
        }
        return x;
    }

    private static LeavesInCups oneRow(String cup, int kind, int n, String row) {
        LeavesInCups x = Made.withCup(cup);
        x.doing(kind, n);
        Made.row(x, row);
        return x;
    }

    private void runInTerms() {
        said.in("Terms");
        said.says("RUN of a ROW: from still water (all ROUNDS 0, all LEAVES where they were told):");
        LeavesInCups x = turning("0*1", "1*3", "4*60");
        x.leaf(3, 0, 0);
        int[] ends = {0, 5, 3};
        for (int doing : new int[] {1, 0, 1, NONE}) {
            for (int row = 0; row < 3; row++) {
                said.is("row " + row + " ahead of doing " + doing, x.ends(row, 0), ends[row]);
            }
            x.ticks(doing, 50);
        }
        said.is("the leaf lies elsewhere", x.about(0, 0), 0);
        said.is("the water is not still", x.round(0, 1), 99);
    }

    private void itemsInTerms() {
        said.says("its ITEMS one behind the other");
        LeavesInCups x = turning("1*3,4*2,1*3", "1*6", "4*2,1*3", "1*2,4*2,1*2,4*2,1*2,4*2", "4*2,1*2,4*2,1*2,4*2,1*5", "1*2");
        x.leaf(0, 0, 0);
        int[] ends = {4, 5, 2, 3, 5, 1};
        for (int row = 0; row < 6; row++) {
            said.is("row " + row, x.ends(row, 0), ends[row]);
        }
        // -28 by two ticks against, then 60 ticks up to 32: its square by 100 is 10, that of 31 is 9.
        LeavesInCups sixty = Made.withCup("r6h2f0w0m0");
        sixty.doing(STIRRED, 1);
        sixty.doing(AGAINST, 14);
        Made.row(sixty, "1*2,0*60");
        Made.row(sixty, "1*2,0*59");
        sixty.leaf(5, 9, 9);
        said.is("60 ticks", sixty.ends(0, 0), 0);
        said.is("59 ticks", sixty.ends(1, 0), 5);
        said.says("(a DOING that is not: a REST),");
        LeavesInCups y = turning("2*60", LONGEST, "1*3,7*2,1*3");
        y.leaf(0, 0, 0);
        said.is("doing 2 is not", y.ends(0, 0), 0);
        said.is("doing 7 is not", y.ends(1, 0), 0);
        said.is("a rest between", y.ends(2, 0), 4);
        y.doing(TURNED, 40);
        said.is("now doing 2 is", y.ends(0, 0), 5);
        for (int doing = 3; doing < 8; doing++) {
            said.is("doing 7 is not yet", y.ends(1, 0), 0);
            y.doing(TURNED, 40);
        }
        said.is("now doing 7 is", y.ends(1, 0), 5);
        LeavesInCups none = Made.withCup("r2h2f0w0m0");
        none.leaf(1, 0, 0);
        Made.row(none, "0*1");
        said.is("without doings", none.ends(0, 0), 1);
    }

    /** Where a leaf lies behind a doing from still water, then so many rests, asked of ticks(). */
    private static int restedAt(String cup, int kind, int n, int many, int rests, int ring, int weight) {
        LeavesInCups x = Made.withCup(cup);
        x.doing(kind, n);
        x.leaf(ring, weight, 0);
        x.ticks(0, many);
        x.ticks(NONE, rests);
        return x.about(0, 0);
    }

    private void restInTerms() {
        said.says("then 60 TICKS of REST; where each LEAF ENDS.");
        // Found by a search: a leaf goes by the sixtieth rest, or would by the sixty-first.
        Object[][] late = {
            {"r4h4f1w0m9", AGAINST, 3, 53, 2, 59}, {"r3h4f1w0m8", STIRRED, 19, 5, 1, 61},
            {"r5h3f1w0m6", AGAINST, 12, 29, 4, 61}, {"r3h4f1w0m7", STIRRED, 6, 20, 1, 59},
        };
        for (Object[] l : late) {
            String cup = (String) l[0];
            int kind = (int) l[1];
            int n = (int) l[2];
            int many = (int) l[3];
            int ring = (int) l[4];
            LeavesInCups x = oneRow(cup, kind, n, "0*" + many);
            int other = 0;
            for (int weight = 0; weight <= 7; weight++) {
                x.leaf(ring, weight + 2, 0);
                int rested = restedAt(cup, kind, n, many, 60, ring, weight + 2);
                said.is(cup + ": weight " + (weight + 2), x.ends(0, weight), rested);
                other += rested == restedAt(cup, kind, n, many, (int) l[5], ring, weight + 2) ? 0 : 1;
            }
            said.isTrue(cup + ": it turns on one rest", other > 0);
        }
        said.says("It ENDS in the HEAP (RING 0), at the RIM (the last one), else in a RING.");
        LeavesInCups x = turning("4*1");
        LeavesInCups two = Made.withCup("r2h2f0w0m0");
        Made.row(two, "4*1");
        for (int ring = 0; ring < 6; ring++) {
            x.leaf(ring, 0, 0);
            said.is("of six: ring " + ring, x.lies(0, ring), ring == 0 ? 0 : ring == 5 ? 2 : 1);
        }
        for (int ring = 0; ring < 2; ring++) {
            two.leaf(ring, 0, 0);
            said.is("of two: ring " + ring, two.lies(0, ring), ring == 0 ? 0 : 2);
        }
    }

    private void lineInTerms() {
        said.says("LINE of a ROW for a RING and a STICK: the least WEIGHT (0 to 9) by which a LEAF told there");
        said.is("of the middle of them", oneRow("r4h4f1w0m9", AGAINST, 3, "0*53").line(0, 2, 0), 7);
        said.is("the most", oneRow("r5h3f1w0m6", AGAINST, 12, "0*29").line(0, 4, 0), 9);
        LeavesInCups x = turning("0*1");
        said.is("the least: it sticks", x.line(0, 1, 1), 0);
        said.is("by that ring: it is there", x.line(0, 0, 1), NONE);
        said.is("by that stick: it goes", x.line(0, 1, 0), NONE);
        said.says("would not END in the HEAP.");
        LeavesInCups y = oneRow("r4h4f1w0m9", AGAINST, 3, "0*53");
        for (int weight = 0; weight < 8; weight++) {
            y.leaf(2, weight, 0);
            said.is("weight " + weight, y.ends(0, weight) > 0 ? 1 : 0, weight < 7 ? 0 : 1);
        }
    }

    private void wantInTerms() {
        said.says("WANT: of each RING how many LEAVES (0 to 8; 0 at first).");
        LeavesInCups x = Made.withCup("r6h2f0w0m0");
        for (int ring = 0; ring < 6; ring++) {
            said.is("at first", x.want(ring, 8), 0);
            said.is("8", x.want(ring, 9), OUTSIDE);
            said.is("below", x.want(ring, -1), OUTSIDE);
            said.is("it was 8", x.want(ring, 0), 8);
            said.is("it was 0", x.want(ring, ring), 0);
        }
        said.says("OFF of a ROW: over all RINGS how many LEAVES more or less END there than are wanted, together.");
        LeavesInCups y = turning("0*1", "1*2");
        said.is("none, none wanted", y.off(0), 0);
        for (int ring = 0; ring < 6; ring++) {
            y.want(ring, 8);
        }
        said.is("48 less", y.off(0), 48);
        for (int leaf = 0; leaf < 8; leaf++) {
            y.leaf(5, 0, 0);
        }
        said.is("40 less", y.off(0), 40);
        for (int ring = 1; ring < 6; ring++) {
            y.want(ring, 0);
        }
        said.is("as wanted", y.off(0), 0);
        said.is("8 less in the heap, 8 more at the rim", y.off(1), 16);
    }

    private void foundInTerms() {
        said.says("FOUND: of STIRRED by n (1 to 20) for t TICKS (1 to 20), as a ROW by itself, that by which it is least OFF;");
        // The wall leaves 4 tenths: by 16 it goes 6, 8, 9, 10; by 15 no more than 9.
        LeavesInCups wall = Made.withCup("r2h2f0w6m0");
        wall.leaf(1, 0, 0);
        wall.want(0, 1);
        said.is("16", wall.found(0), 16);
        said.is("in 4", wall.found(1), 4);
        said.is("none off", wall.found(2), 0);
        // The wall leaves 6 tenths: by 19 it goes 11, 18, 22, 24, 25, 26, 27; by 18 no more than 25.
        LeavesInCups far = Made.withCup("r2h2f0w4m0");
        far.leaf(1, 0, 6);
        far.want(0, 1);
        said.is("19", far.found(0), 19);
        said.is("in 7", far.found(1), 7);
        said.is("none off", far.found(2), 0);
        // By 20 it goes 6, 7, 8, and not on to 10.
        LeavesInCups none = Made.withCup("r2h2f0w7m0");
        none.leaf(1, 0, 0);
        none.want(0, 1);
        said.is("by none", none.found(2), 2);
        said.is("n, if it is all the same", none.found(0), 1);
        said.is("t, if it is all the same", none.found(1), 1);
        // By 10 it goes in at once, and then on through all rings in the rests behind it.
        LeavesInCups rests = Made.withCup("r6h2f0w0m0");
        rests.leaf(5, 0, 0);
        rests.want(0, 1);
        said.is("by 1", rests.found(0), 1);
        said.is("in 10", rests.found(1), 10);
        LeavesInCups edge = Made.withCup("r2h3f2w2m1q");
        edge.leaf(1, 2, 6);
        edge.want(0, 1);
        said.is("20, found by a search", edge.found(0), 20);
        said.is("in 6", edge.found(1), 6);
        LeavesInCups above = Made.withCup("r2h2f0w4m1");
        above.leaf(1, 3, 6);
        above.want(0, 1);
        said.is("21 would do it, found by a search", above.found(2), 2);
        LeavesInCups longer = Made.withCup("r2h3f1w0m1");
        longer.leaf(1, 2, 3);
        longer.want(0, 1);
        said.is("1 in 21 would do it, found by a search", longer.found(0), 2);
        said.is("but 2 in 11 do", longer.found(1), 11);
        said.says("of like ones the least n, then t.");
        LeavesInCups x = Made.withCup("r3h2f9w0m0");
        x.leaf(2, 0, 3);
        x.want(0, 1);
        // Its square by 100 has to be 4 at last: by 20 once, by 10 twice, .. by 1 in 20 ticks.
        said.is("the least n", x.found(0), 1);
        said.is("20 ticks", x.found(1), 20);
        x.leaf(2, 0, 4);
        x.want(0, 2);
        // It has to be 23 at least: by 1 in 23 ticks, which are too many; by 2 in 12 or more.
        said.is("the least n", x.found(0), 2);
        said.is("the least t", x.found(1), 12);
    }

    private void seenInTerms() {
        said.says("SEEN: of LEAVES the RING in which they lie in the end.");
        LeavesInCups x = turning("0*1", "1*2", "4*1");
        x.leaf(0, 0, 0);
        x.leaf(4, 0, 0);
        said.is("0 of the first", x.seen(0, 0), NONE);
        said.is("5 of the other", x.seen(1, 5), NONE);
        said.is("of the first", x.about(0, 5), 0);
        said.is("of the other", x.about(1, 5), 5);
        said.says("READ: the ROWS by which all SEEN ones END there.");
        said.is("by none both", x.read(), 0);
        x.seen(0, NONE);
        said.is("the other: by row 1", x.read(), 2);
        x.seen(1, 4);
        said.is("the other: by row 2", x.read(), 4);
        x.seen(1, 0);
        said.is("the other: by row 0", x.read(), 1);
        x.seen(1, NONE);
        said.is("none is seen: by all", x.read(), 7);
        x.seen(0, 0);
        said.is("the first: by rows 0 and 2", x.read(), 5);
    }

    private void tellsInTerms() {
        said.says("TELLS: the ROW by which LEAVES END in most different RINGS, of like ones the least.");
        LeavesInCups x = turning("0*1", "1*2", "4*1", "7*1");
        said.is("without leaves all tell nothing", x.tells(), 0);
        x.leaf(0, 0, 1);
        said.is("one leaf: all tell one", x.tells(), 0);
        x.leaf(1, 0, 0);
        // Row 0: 0 0. Row 1: 0 2. Rows 2 and 3: 0 1.
        said.is("two rings", x.tells(), 1);
        x.leaf(2, 0, 1);
        // Row 0: 0 0 2. Row 1: 0 2 2. Rows 2 and 3: 0 1 2.
        said.is("three rings, of like ones the least", x.tells(), 2);
        for (int leaf = 3; leaf < 8; leaf++) {
            x.leaf(5, 0, 1);
        }
        said.is("leaves in one ring count once", x.tells(), 2);
        LeavesInCups six = turning("0*1", "4*1");
        for (int ring = 0; ring < 6; ring++) {
            six.leaf(ring, 0, 0);
        }
        said.is("all six", six.tells(), 1);
    }

    private static int dragOf(int... pictures) {
        LeavesInCups x = new LeavesInCups();
        for (int i = 0; i + 1 < pictures.length; i += 2) {
            x.picture(pictures[i], pictures[i + 1]);
        }
        return x.drag();
    }

    private void picturesInTerms() {
        said.says("PICTURES (12 at most): a ROUND ahead and behind (-99 to 99).");
        LeavesInCups x = new LeavesInCups();
        for (int many = 1; many <= 12; many++) {
            said.is("one more", x.picture(many % 2 == 0 ? 99 : -99, many % 3 == 0 ? 99 : -99), many);
        }
        said.is("a thirteenth", x.picture(0, 0), FULL);
        for (int round = -105; round <= 105; round++) {
            int want = round >= -99 && round <= 99 ? 1 : OUTSIDE;
            said.is("ahead " + round, new LeavesInCups().picture(round, 0), want);
            said.is("behind " + round, new LeavesInCups().picture(0, round), want);
        }
        said.says("DRAG: the FLOOR (0 to 9) by which what it would leave of those ahead is least off those behind,");
        for (int floor = 0; floor <= 9; floor++) {
            said.is("floor " + floor, dragOf(10, 10 - floor), floor);
            said.is("floor " + floor + ", against", dragOf(-10, floor - 10), floor);
        }
        said.is("9 at most", dragOf(10, 0), 9);
        said.is("9 at most", dragOf(99, -99), 9);
        said.is("0 at least", dragOf(10, 99), 0);
        said.says("all sizes together;");
        // The first two are off by 20 together, whatever the floor.
        said.is("more and less do not make up for one another", dragOf(10, 0, 10, 20, 20, 10), 5);
        said.is("two against one", dragOf(50, 50, 50, 40, 50, 40), 2);
        said.says("of like ones the least.");
        said.is("by all", dragOf(0, 5), 0);
        said.is("by 1 to 9", dragOf(1, 0), 1);
        said.is("by 3 and 4", dragOf(7, 4), 3);
        said.is("by 0 to 2, together 10", dragOf(50, 50, 50, 40), 0);
    }

    private void endsAndLies() {
        LeavesInCups x = turning("0*1", "1*2", "4*1", "1*3", "1*4", LONGEST);
        for (int leaf = 0; leaf < 8; leaf++) {
            x.leaf(leaf % 3, leaf, leaf < 6 ? 0 : 9);
        }
        said.in("Promise 18");
        said.says("The RING in which a LEAF ENDS by a ROW.");
        int[][] ends = {{0, 0, 0, 0, 0, 0, 0, 1}, {1, 2, 3, 1, 2, 3, 0, 1}, {0, 1, 2, 0, 1, 2, 0, 1}, {2, 3, 4, 2, 3, 4, 0, 1},
            {3, 4, 5, 3, 4, 5, 0, 1}, {0, 1, 2, 0, 1, 2, 0, 1}};
        for (int row = 0; row < 6; row++) {
            for (int leaf = 0; leaf < 8; leaf++) {
                said.is("ends(" + row + ", " + leaf + ")", x.ends(row, leaf), ends[row][leaf]);
            }
        }
        said.says("UNKNOWN: row, leaf.");
        LeavesInCups none = Made.withCup("r2h2f0w0m0");
        for (int number : Edges.beyond(0, 7)) {
            Edges.refused(said, "ends(0, " + number + ")", x, z -> z.ends(0, number), UNKNOWN);
            int row = number == 8 ? 6 : number;
            Edges.refused(said, "ends(" + row + ", 0)", x, z -> z.ends(row, 0), UNKNOWN);
        }
        said.is("no row, no leaf", none.ends(0, 0), UNKNOWN);
        Made.row(none, "0*1");
        said.is("no leaf", none.ends(0, 0), UNKNOWN);
        said.is("no cup", oneRowWithoutCup().ends(0, 0), UNKNOWN);
        said.in("Promise 19");
        said.says("Where it ENDS: 0 HEAP, 1 RING, 2 RIM.");
        for (int row = 0; row < 6; row++) {
            for (int leaf = 0; leaf < 8; leaf++) {
                int ring = ends[row][leaf];
                said.is("lies(" + row + ", " + leaf + ")", x.lies(row, leaf), ring == 0 ? 0 : ring == 5 ? 2 : 1);
            }
        }
        said.says("UNKNOWN: row, leaf.");
        for (int number : Edges.beyond(0, 7)) {
            Edges.refused(said, "lies(0, " + number + ")", x, z -> z.lies(0, number), UNKNOWN);
            int row = number == 8 ? 6 : number;
            Edges.refused(said, "lies(" + row + ", 0)", x, z -> z.lies(row, 0), UNKNOWN);
        }
        said.is("no leaf", none.lies(0, 0), UNKNOWN);
        said.is("no cup", oneRowWithoutCup().lies(0, 0), UNKNOWN);
    }

    private static LeavesInCups oneRowWithoutCup() {
        LeavesInCups x = new LeavesInCups();
        Made.row(x, "0*1");
        return x;
    }

    private void line() {
        said.in("Promise 20");
        LeavesInCups x = turning("0*1", "1*2", "4*1", "4*1", "4*1", "0*1");
        said.says("LINE;");
        said.is("0", x.line(1, 0, 0), 0);
        said.is("6, found by a search", oneRow("r3h4f1w0m8", STIRRED, 19, "0*5").line(0, 1, 0), 6);
        said.is("of the last row, the last ring, the most stick", x.line(5, 5, 9), 0);
        for (int leaf = 0; leaf < 8; leaf++) {
            x.leaf(5, 9, 9);
        }
        said.is("eight leaves are no matter", x.line(5, 5, 0), NONE);
        said.is("none came", x.count(2), 8);
        said.says("NONE: by all it would.");
        said.is("from the rim", x.line(0, 5, 0), NONE);
        said.is("in the heap", x.line(2, 0, 0), NONE);
        said.is("9 would, too", oneRow("r3h4f1w0m7", STIRRED, 6, "0*20").line(0, 2, 0), NONE);
        said.says("UNKNOWN: row, ring (without a CUP, too);");
        for (int wrong : Edges.beyond(0, 5)) {
            Edges.refused(said, "line(" + wrong + ", 0, 0)", x, z -> z.line(wrong, 0, 0), UNKNOWN);
            Edges.refused(said, "line(0, " + wrong + ", 0)", x, z -> z.line(0, wrong, 0), UNKNOWN);
            Edges.refused(said, "row ahead of OUTSIDE", x, z -> z.line(wrong, 0, 10), UNKNOWN);
            Edges.refused(said, "ring ahead of OUTSIDE", x, z -> z.line(0, wrong, -1), UNKNOWN);
        }
        said.is("without rows", Made.withCup("r2h2f0w0m0").line(0, 0, 0), UNKNOWN);
        said.is("without a cup", oneRowWithoutCup().line(0, 0, 0), UNKNOWN);
        said.is("without a cup, ahead of OUTSIDE", oneRowWithoutCup().line(0, 0, 10), UNKNOWN);
        said.says("OUTSIDE: stick.");
        for (int stick : Edges.beyond(0, 9)) {
            Edges.refused(said, "line(0, 0, " + stick + ")", x, z -> z.line(0, 0, stick), OUTSIDE);
        }
    }

    private void want() {
        said.in("Promise 21");
        said.says("WANT of a RING becomes so many: what it was.");
        LeavesInCups x = Made.withCup("r6h2f0w0m0");
        for (int ring = 0; ring < 6; ring++) {
            int was = 0;
            for (int many : new int[] {8, 0, 1, 7, ring}) {
                said.is("want(" + ring + ", " + many + ")", x.want(ring, many), was);
                was = many;
            }
        }
        said.says("UNKNOWN: ring (without a CUP, too);");
        for (int ring : Edges.beyond(0, 5)) {
            Edges.refused(said, "want(" + ring + ", 1)", x, z -> z.want(ring, 1), UNKNOWN);
            Edges.refused(said, "UNKNOWN ahead of OUTSIDE", x, z -> z.want(ring, 9), UNKNOWN);
        }
        said.is("of two rings: want(2, 1)", Made.withCup("r2h2f0w0m0").want(2, 1), UNKNOWN);
        said.is("without a cup", new LeavesInCups().want(0, 1), UNKNOWN);
        said.is("without a cup, ahead of OUTSIDE", new LeavesInCups().want(0, 9), UNKNOWN);
        said.says("OUTSIDE.");
        for (int many : Edges.beyond(0, 8)) {
            Edges.refused(said, "want(5, " + many + ")", x, z -> z.want(5, many), OUTSIDE);
        }
    }

    private void off() {
        said.in("Promise 22");
        said.says("OFF of a ROW.");
        LeavesInCups x = turning("0*1", "1*2", "4*1", "4*1", "4*1", "1*4");
        x.leaf(1, 0, 0);
        x.leaf(2, 0, 0);
        x.want(1, 1);
        x.want(4, 1);
        int[] offs = {4, 4, 2, 2, 2, 2};
        for (int row = 0; row < 6; row++) {
            said.is("off(" + row + ")", x.off(row), offs[row]);
        }
        said.says("UNKNOWN;");
        for (int row : Edges.beyond(0, 5)) {
            Edges.refused(said, "off(" + row + ")", x, z -> z.off(row), UNKNOWN);
            said.is("UNKNOWN ahead of STATE", new LeavesInCups().off(row), UNKNOWN);
        }
        said.is("without rows", Made.withCup("r2h2f0w0m0").off(0), UNKNOWN);
        said.says("STATE.");
        LeavesInCups none = oneRowWithoutCup();
        Edges.refused(said, "without a cup", none, z -> z.off(0), STATE);
        said.is("UNKNOWN ahead of it", none.off(1), UNKNOWN);
    }

    private void found() {
        said.in("Promise 23");
        said.says("FOUND: what = 0 n, 1 t, 2 how much it is OFF.");
        LeavesInCups x = Made.withCup("r2h2f0w6m0");
        x.leaf(1, 0, 0);
        x.leaf(1, 0, 9);
        x.want(0, 4);
        int[] due = {16, 4, 4};
        for (int what = 0; what <= 2; what++) {
            said.is("found(" + what + ")", x.found(what), due[what]);
        }
        said.is("it tells no doing", x.count(1), 0);
        said.is("nor a row", x.count(3), 0);
        said.is("the water is still", x.round(0, 1), 0);
        said.is("the leaf lies where it was told", x.about(0, 0), 1);
        LeavesInCups moving = Made.withCup("r2h2f0w6m0");
        moving.leaf(1, 0, 0);
        moving.want(0, 1);
        Edges.then(moving, STIRRED, 20, 30);
        said.is("from still water: n", moving.found(0), 16);
        said.is("from still water: t", moving.found(1), 4);
    }

    private void foundTwelveTimes() {
        said.says("STATE (found() was done 12 times ever (it counts on, whatever is read or restored), too, behind OUTSIDE);");
        LeavesInCups none = new LeavesInCups();
        for (int what = -1; what <= 3; what++) {
            int asked = what;
            Edges.refused(said, "without a cup: found(" + what + ")", none, z -> z.found(asked), STATE);
        }
        LeavesInCups x = Made.withCup("r2h2f0w0m0");
        x.image();
        for (int done = 1; done <= 12; done++) {
            if (done == 5) {
                said.is("restored", x.restore(), 0);
            }
            if (done == 8) {
                said.is("a cup is read", Made.cup(x, "r2h2f0w0m0"), 2);
            }
            if (done == 10) {
                Made.row(x, "0*1");
                Made.river(x, "0,0,0,0");
                x.still();
            }
            said.is("OUTSIDE is not done", x.found(3), OUTSIDE);
            said.is("done " + done + " times", x.found(done % 2), 1);
            said.is("counted", x.count(8), done);
        }
        for (int what = 0; what <= 2; what++) {
            int asked = what;
            Edges.refused(said, "a thirteenth: found(" + what + ")", x, z -> z.found(asked), STATE);
        }
        x.image();
        x.restore();
        said.is("restored", x.found(0), STATE);
        Made.cup(x, "r3h2f0w0m0");
        said.is("another cup", x.found(2), STATE);
        said.is("twelve", x.count(8), 12);
        said.says("OUTSIDE.");
        for (int what : Edges.beyond(0, 2)) {
            Edges.refused(said, "found(" + what + ")", Made.withCup("r2h2f0w0m0"), z -> z.found(what), OUTSIDE);
            Edges.refused(said, "ahead of the thirteenth", x, z -> z.found(what), OUTSIDE);
        }
    }

    private void seen() {
        said.in("Promise 24");
        said.says("SEEN of a LEAF becomes a RING (NONE: it was not SEEN): what it was (NONE).");
        LeavesInCups x = Made.withCup("r6h2f0w0m0");
        for (int leaf = 0; leaf < 8; leaf++) {
            x.leaf(0, 0, 0);
        }
        for (int leaf = 0; leaf < 8; leaf++) {
            int was = NONE;
            for (int ring : new int[] {0, 5, NONE, NONE, 3, leaf % 6}) {
                said.is("seen(" + leaf + ", " + ring + ")", x.seen(leaf, ring), was);
                said.is("about(" + leaf + ", 5)", x.about(leaf, 5), ring);
                was = ring;
            }
        }
        said.is("each for itself", x.about(0, 5), 0);
        said.is("where it lies is another matter", x.about(7, 0), 0);
        said.says("UNKNOWN: leaf, ring.");
        for (int leaf : Edges.beyond(0, 7)) {
            Edges.refused(said, "seen(" + leaf + ", 0)", x, z -> z.seen(leaf, 0), UNKNOWN);
            Edges.refused(said, "seen(" + leaf + ", NONE)", x, z -> z.seen(leaf, NONE), UNKNOWN);
        }
        for (int ring : new int[] {-2, 6, Edges.LEAST, Edges.MOST, UNKNOWN}) {
            Edges.refused(said, "seen(0, " + ring + ")", x, z -> z.seen(0, ring), UNKNOWN);
        }
        said.is("without leaves", Made.withCup("r2h2f0w0m0").seen(0, 0), UNKNOWN);
        said.is("without a cup", new LeavesInCups().seen(0, NONE), UNKNOWN);
    }

    private void readAndTells() {
        LeavesInCups x = turning("0*1", "1*2", "4*1", "1*3", "1*4", "0*2");
        said.in("Promise 25");
        said.says("READ, as bits of ROWS.");
        said.is("without rows", turning().read(), 0);
        said.is("without leaves: by all six", x.read(), 63);
        for (int leaf = 0; leaf < 8; leaf++) {
            x.leaf(2, 0, 0);
        }
        said.is("none is seen: by all six", x.read(), 63);
        int[] bits = {33, 0, 4, 2, 8, 16};
        for (int ring = 0; ring < 6; ring++) {
            x.seen(7, ring);
            said.is("the last in ring " + ring, x.read(), bits[ring]);
        }
        x.seen(0, 4);
        said.is("all of them", x.read(), 0);
        x.seen(7, 4);
        said.is("both", x.read(), 8);
        said.says("STATE.");
        Edges.refused(said, "without a cup", new LeavesInCups(), LeavesInCups::read, STATE);
        Edges.refused(said, "a row without a cup", oneRowWithoutCup(), LeavesInCups::read, STATE);
        said.in("Promise 26");
        said.says("TELLS;");
        said.is("all in one ring by each: the least", x.tells(), 0);
        LeavesInCups last = turning("0*1", "0*1", "0*1", "0*1", "0*1", "4*1");
        last.leaf(0, 0, 0);
        last.leaf(5, 0, 0);
        said.is("the last", last.tells(), 5);
        said.says("NONE: there are no ROWS.");
        said.is("a cup alone", Made.withCup("r2h2f0w0m0").tells(), NONE);
        LeavesInCups leaves = turning();
        leaves.leaf(0, 0, 0);
        said.is("leaves, too", leaves.tells(), NONE);
        said.says("STATE.");
        Edges.refused(said, "without a cup", new LeavesInCups(), LeavesInCups::tells, STATE);
        Edges.refused(said, "a row without a cup", oneRowWithoutCup(), LeavesInCups::tells, STATE);
    }

    private void apart() {
        said.in("Promise 27");
        said.says("How many RINGS apart two LEAVES END by a ROW.");
        LeavesInCups x = turning("4*1", "0*1", "1*2", "4*1", "4*1", "0*1");
        for (int leaf = 0; leaf < 8; leaf++) {
            x.leaf(leaf % 6, 0, leaf == 5 ? 1 : 0);
        }
        for (int a = 0; a < 8; a++) {
            for (int b = 0; b < 8; b++) {
                said.is("apart(0, " + a + ", " + b + ")", x.apart(0, a, b), Math.abs(a % 6 - b % 6));
            }
        }
        said.is("all go but one", x.apart(5, 5, 4), 5);
        said.is("both go", x.apart(5, 4, 7), 0);
        said.is("both at the rim", x.apart(2, 4, 5), 0);
        said.says("UNKNOWN: row, a, b.");
        for (int wrong : Edges.beyond(0, 7)) {
            int row = wrong == 8 ? 6 : wrong;
            Edges.refused(said, "apart(" + row + ", 0, 1)", x, z -> z.apart(row, 0, 1), UNKNOWN);
            Edges.refused(said, "apart(0, " + wrong + ", 1)", x, z -> z.apart(0, wrong, 1), UNKNOWN);
            Edges.refused(said, "apart(0, 1, " + wrong + ")", x, z -> z.apart(0, 1, wrong), UNKNOWN);
            Edges.refused(said, "apart of one that is not from itself", x, z -> z.apart(0, wrong, wrong), UNKNOWN);
        }
        said.is("without a cup", oneRowWithoutCup().apart(0, 0, 0), UNKNOWN);
    }

    private void picture() {
        said.in("Promise 28");
        said.says("A PICTURE: how many.");
        LeavesInCups x = new LeavesInCups();
        int[] numbers = new int[9 + 24];
        for (int many = 1; many <= 12; many++) {
            numbers[2 * many - 2] = many % 2 == 0 ? 99 : -99;
            numbers[2 * many - 1] = 50 - 10 * many;
            said.is("one more", x.picture(numbers[2 * many - 2], numbers[2 * many - 1]), many);
        }
        numbers[24 + 4] = 12;
        said.is("both of each", x.digest(), Edges.digestOf(numbers));
        said.says("OUTSIDE;");
        LeavesInCups y = new LeavesInCups();
        for (int round : Edges.beyond(-99, 99)) {
            Edges.refused(said, "picture(" + round + ", 0)", y, z -> z.picture(round, 0), OUTSIDE);
            Edges.refused(said, "picture(0, " + round + ")", y, z -> z.picture(0, round), OUTSIDE);
            Edges.refused(said, "ahead of FULL", x, z -> z.picture(round, 0), OUTSIDE);
            Edges.refused(said, "ahead of FULL", x, z -> z.picture(0, round), OUTSIDE);
        }
        said.says("FULL.");
        Edges.refused(said, "a thirteenth", x, z -> z.picture(0, 0), FULL);
    }

    private void drag() {
        said.in("Promise 29");
        said.says("DRAG.");
        LeavesInCups x = new LeavesInCups();
        said.is("without pictures", x.drag(), 0);
        for (int many = 1; many <= 11; many++) {
            x.picture(10, 3);
            said.is("all alike", x.drag(), 7);
        }
        LeavesInCups y = new LeavesInCups();
        for (int many = 1; many <= 11; many++) {
            y.picture(1, 0);
        }
        said.is("by 1 to 9", y.drag(), 1);
        y.picture(90, 0);
        said.is("the twelfth counts, too", y.drag(), 9);
        y.picture(90, 90);
        said.is("a thirteenth does not", y.drag(), 9);
    }
}
