/** What the document says of ticks, rounds and the second turning, promises 13 to 17. */
final class EdgesOfTicks {
    private static final int NONE = Edges.NONE, UNKNOWN = Edges.UNKNOWN, OUTSIDE = Edges.OUTSIDE, STATE = Edges.STATE;
    private static final int NO_ROUND = Edges.NO_ROUND, NO_TICKS = Edges.NO_TICKS;
    private static final int REST = Edges.REST, STIRRED = Edges.STIRRED, AGAINST = Edges.AGAINST;
    private static final int TURNED = Edges.TURNED, STRAWED = Edges.STRAWED;

    private final Said said;

    EdgesOfTicks(Said said) {
        this.said = said;
    }

    void all() {
        quotients();
        roundsAtFirst();
        doingsInTerms();
        baseInTerms();
        wallInTerms();
        mixInTerms();
        secondInTerms();
        pullInTerms();
        ticks();
        ticksRefused();
        still();
        round();
        second();
        would();
    }

    private void quotients() {
        said.in("What it is");
        said.says("A quotient is taken towards 0 everywhere.");
        LeavesInCups half = Edges.after("r2h2f0w0m0", AGAINST, 5, 1);
        Edges.then(half, STRAWED, 0, 1);
        said.is("half of -5", half.round(0, 1), -2);
        LeavesInCups floor = Edges.after("r2h2f1w0m0", TURNED, 15, 1);
        said.is("15 less 9 tenths of 15", floor.round(0, 0), 2);
        Edges.then(floor, REST, 0, 1);
        said.is("9 tenths of 2", floor.round(0, 0), 1);
        said.is("9 tenths of -19", Edges.after("r2h2f0w1m0", AGAINST, 19, 1).round(1, 1), -17);
        LeavesInCups mix = Edges.after("r2h2f0w0m3", AGAINST, 7, 1);
        said.is("21 twentieths go, so 1", mix.round(0, 1) * 100 + mix.round(0, 0), -601);
        LeavesInCups second = Edges.after("r2h2f9w0m0", TURNED, 15, 9);
        said.is("-225 by 100", second.second(0), -2);
        // The floor goes 10, and 1 of what is above: a mean of 0, not of a half.
        LeavesInCups mean = Edges.after("r2h3f5w0m2", TURNED, 22, 1);
        Edges.rounds(said, mean, 0, 10, 1, 0);
        said.is("1 by 2, less 100, by 100", mean.second(0), -1);
        LeavesInCups pull = Edges.after("r2h2f9w0m0", TURNED, 15, 9);
        pull.leaf(0, 9, 9);
        said.is("-2 less 2025 by 1000", pull.about(0, 4), -4);
        LeavesInCups drag = new LeavesInCups();
        drag.picture(-7, -4);
        said.is("-49 tenths are -4", drag.drag(), 3);
        LeavesInCups river = Made.withRiver("20,20,15,20,20");
        said.is("-30 by 20", river.point(2, 1, 3, 99), 14);
        said.is("half of 5", Made.withRiver("0,50,5,9").point(1, 1, 0, 44), 2);
    }

    private void roundsAtFirst() {
        said.in("Terms");
        said.says("Each CELL (RING, HEIGHT) has a ROUND (-99 to 99; 0 at first).");
        LeavesInCups x = Made.withCup("r6h4f9w9m9q");
        for (int ring = 0; ring < 6; ring++) {
            for (int height = 0; height < 4; height++) {
                said.is("at first", x.round(ring, height), 0);
            }
        }
        LeavesInCups y = Edges.after("r2h2f0w0m9", STIRRED, 20, 100);
        Edges.rounds(said, y, 0, 97, 99);
        Edges.rounds(said, Edges.after("r2h2f0w0m9", AGAINST, 20, 100), 1, -97, -99);
    }

    private void doingsInTerms() {
        said.says("A TICK of a DOING: 1 STIRRED: the ROUND of each CELL above the floor is n more (99 at most);");
        LeavesInCups x = Edges.after("r6h4f0w0m0", STIRRED, 1, 1);
        for (int ring = 0; ring < 6; ring++) {
            Edges.rounds(said, x, ring, 0, 1, 1, 1);
        }
        int[] rounds = {20, 40, 60, 80, 99, 99};
        for (int many = 1; many <= 6; many++) {
            Edges.rounds(said, Edges.after("r2h3f0w0m0", STIRRED, 20, many), 1, 0, rounds[many - 1], rounds[many - 1]);
        }
        said.is("98", Edges.after("r2h2f0w0m0", STIRRED, 14, 7).round(0, 1), 98);
        said.is("11 times 9", Edges.after("r2h2f0w0m0", STIRRED, 9, 11).round(0, 1), 99);
        said.is("99 at most", Edges.after("r2h2f0w0m0", STIRRED, 9, 12).round(0, 1), 99);
        said.is("99 ahead of the drag", Edges.after("r2h2f0w1m0", STIRRED, 20, 11).round(1, 1), 89);
        said.says("AGAINST: n less (-99 at least);");
        for (int many = 1; many <= 6; many++) {
            Edges.rounds(said, Edges.after("r2h3f0w0m0", AGAINST, 20, many), 1, 0, -rounds[many - 1], -rounds[many - 1]);
        }
        said.is("-98", Edges.after("r2h2f0w0m0", AGAINST, 14, 7).round(0, 1), -98);
        said.is("11 times -9", Edges.after("r2h2f0w0m0", AGAINST, 9, 11).round(0, 1), -99);
        said.is("-99 at least", Edges.after("r2h2f0w0m0", AGAINST, 9, 12).round(0, 1), -99);
        LeavesInCups back = Edges.after("r2h2f0w0m0", STIRRED, 20, 50);
        Edges.then(back, AGAINST, 20, 1);
        said.is("back from 99", back.round(1, 1), 79);
        said.says("STRAWED: the ROUND of each CELL of RING 0 is half.");
        LeavesInCups y = Edges.after("r2h2f0w0m9", STIRRED, 20, 1);
        Edges.rounds(said, y, 0, 9, 11);
        Edges.then(y, STRAWED, 0, 1);
        Edges.rounds(said, y, 0, 4, 5);
        Edges.rounds(said, y, 1, 9, 11);
        int[] halves = {49, 24, 12, 6, 3, 1, 0, 0};
        LeavesInCups most = Edges.after("r6h4f0w0m0", STIRRED, 20, 5);
        int straw = most.doing(STRAWED, 0);
        for (int half : halves) {
            most.ticks(straw, 1);
            Edges.rounds(said, most, 0, 0, half, half, half);
            Edges.rounds(said, most, 5, 0, 99, 99, 99);
        }
    }

    private void baseInTerms() {
        said.says("2 BASE is n of a TURNED, else 0.");
        for (int n : new int[] {1, 2, 39, 40}) {
            said.is("turned by " + n, Edges.after("r2h2f9w0m0", TURNED, n, 9).round(0, 0), n);
        }
        int[][] others = {{REST, 0}, {STIRRED, 20}, {AGAINST, 20}, {STRAWED, 0}};
        for (int[] other : others) {
            LeavesInCups x = Edges.after("r2h2f9w0m0", TURNED, 40, 2);
            Edges.then(x, other[0], other[1], 1);
            said.is("kind " + other[0], x.round(1, 0), 4);
        }
        said.says("Of each CELL at the floor what ROUND is more than BASE (less, if it is less)");
        LeavesInCups less = Edges.after("r6h4f9w0m0", TURNED, 40, 1);
        for (int ring = 0; ring < 6; ring++) {
            Edges.rounds(said, less, ring, 36, 0, 0, 0);
        }
        Edges.then(less, TURNED, 10, 1);
        said.is("26 more than 10", less.round(0, 0), 12);
        Edges.then(less, TURNED, 12, 1);
        said.is("neither more nor less", less.round(5, 0), 12);
        said.says("becomes 10 less FLOOR tenths of it;");
        for (int floor = 0; floor <= 9; floor++) {
            LeavesInCups x = Edges.after("r2h2f" + floor + "w0m0", TURNED, 10, 1);
            Edges.rounds(said, x, 0, floor, 0);
            Edges.rounds(said, x, 1, floor, 0);
        }
    }

    private void wallInTerms() {
        said.says("then of each CELL of the last RING likewise by WALL");
        for (int wall = 0; wall <= 9; wall++) {
            LeavesInCups x = Edges.after("r6h4f0w" + wall + "m0", TURNED, 10, 1);
            Edges.rounds(said, x, 5, wall, wall, wall, wall);
            Edges.rounds(said, x, 4, 0, 0, 0, 0);
            Edges.rounds(said, x, 0, 0, 0, 0, 0);
        }
        LeavesInCups both = Edges.after("r2h2f5w5m0", TURNED, 20, 1);
        Edges.rounds(said, both, 1, 15, 10);
        Edges.rounds(said, both, 0, 10, 0);
        Edges.then(both, TURNED, 4, 1);
        // 15 is 11 more than 4, so 5, so 2; 10 is 6 more, so 3.
        Edges.rounds(said, both, 1, 6, 7);
        said.says("(by twice WALL, 10 at most, if THE CUP is SQUARE).");
        int[] twice = {0, 2, 4, 6, 8, 10, 10, 10, 10, 10};
        for (int wall = 0; wall <= 9; wall++) {
            LeavesInCups x = Edges.after("r2h3f0w" + wall + "m0q", TURNED, 10, 1);
            Edges.rounds(said, x, 1, twice[wall], twice[wall], twice[wall]);
            Edges.rounds(said, x, 0, 0, 0, 0);
            said.is("the wall is told as it is", x.cupTold(3), wall);
        }
        LeavesInCups stirred = Edges.after("r2h2f0w9m0q", STIRRED, 20, 5);
        Edges.rounds(said, stirred, 1, 0, 0);
        Edges.rounds(said, stirred, 0, 0, 99);
    }

    private void mixInTerms() {
        said.says("3 MIX: RING by RING, for each HEIGHT but the last, from the floor up:");
        LeavesInCups x = Edges.after("r6h4f0w0m9", STIRRED, 20, 1);
        for (int ring = 0; ring < 6; ring++) {
            Edges.rounds(said, x, ring, 9, 15, 17, 19);
        }
        said.says("MIX twentieths of what the ROUND above it is more (less) go from that one to this one.");
        for (int mix = 0; mix <= 9; mix++) {
            Edges.rounds(said, Edges.after("r2h2f0w0m" + mix, STIRRED, 20, 1), 1, mix, 20 - mix);
            Edges.rounds(said, Edges.after("r2h2f0w0m" + mix, AGAINST, 20, 1), 1, -mix, mix - 20);
        }
        Edges.rounds(said, Edges.after("r2h4f0w0m9", AGAINST, 20, 1), 0, -9, -15, -17, -19);
        Edges.rounds(said, Edges.after("r2h2f9w0m9", TURNED, 40, 1), 0, 20, 16);
        Edges.rounds(said, Edges.after("r2h2f0w0m9", STIRRED, 2, 1), 0, 0, 2);
        Edges.rounds(said, Edges.after("r2h2f0w0m9", STIRRED, 3, 1), 0, 1, 2);
        Edges.rounds(said, Edges.after("r2h2f0w0m1", STIRRED, 19, 1), 0, 0, 19);
        Edges.rounds(said, Edges.after("r2h2f0w0m1", STIRRED, 20, 1), 0, 1, 19);
    }

    private void secondInTerms() {
        said.says("SECOND of a RING: the mean of squares of ROUNDS above the floor (their sum by how many they are)");
        said.is("875 by 3 less 81, by 100", Edges.after("r2h4f0w0m9", STIRRED, 20, 1).second(0), 2);
        said.is("16 and 19 above 5: 617 by 2 less 25", Edges.after("r2h3f0w0m5", STIRRED, 20, 1).second(1), 2);
        for (int heights = 2; heights <= 4; heights++) {
            said.is("alike above", Edges.after("r2h" + heights + "f0w0m0", AGAINST, 20, 5).second(0), 98);
        }
        said.says("less the square of that at the floor, by 100: above 0 water goes in along the floor.");
        said.is("99 by 100", Edges.after("r2h2f0w0m0", STIRRED, 9, 1).second(0), 0);
        said.is("100 by 100", Edges.after("r2h2f0w0m0", STIRRED, 10, 1).second(0), 1);
        said.is("-81 by 100", Edges.after("r2h2f9w0m0", TURNED, 10, 1).second(0), 0);
        said.is("-100 by 100", Edges.after("r2h2f9w0m0", TURNED, 10, 2).second(0), -1);
        LeavesInCups in = Edges.after("r3h2f0w0m0", STIRRED, 10, 1);
        in.leaf(1, 0, 0);
        in.ticks(NONE, 1);
        said.is("above 0 a leaf goes in", in.about(0, 0), 0);
        LeavesInCups out = Edges.after("r3h2f9w0m0", TURNED, 10, 1);
        out.leaf(1, 0, 0);
        out.ticks(0, 1);
        said.is("below 0 it goes out", out.about(0, 0), 2);
        LeavesInCups none = Edges.after("r3h2f0w0m0", STIRRED, 9, 1);
        none.leaf(1, 0, 0);
        none.ticks(NONE, 50);
        said.is("at 0 it stays", none.about(0, 0), 1);
    }

    private void pullInTerms() {
        said.says("4 Behind 3, by ROUNDS as they are then:");
        LeavesInCups x = Made.withCup("r2h2f0w0m9");
        x.leaf(1, 0, 0);
        // 15 ahead of the mix would be 225; behind it 9 less 6 is 45.
        Edges.then(x, STIRRED, 15, 1);
        Edges.rounds(said, x, 1, 6, 9);
        said.is("it stays", x.about(0, 0), 1);
        LeavesInCups first = Made.withCup("r2h2f0w0m0");
        first.leaf(1, 0, 0);
        Edges.then(first, STIRRED, 10, 1);
        said.is("by what the tick made, it goes", first.about(0, 0), 0);
        said.says("PULL of a LEAF: SECOND of its RING less (WEIGHT times the square of the ROUND at the floor there, by 1000);");
        LeavesInCups y = Edges.after("r2h2f9w0m0", TURNED, 10, 2);
        int[] pulls = {-1, -1, -1, -1, -1, -1, -1, -1, -1, -1};
        LeavesInCups z = Edges.after("r2h2f9w0m0", TURNED, 40, 2);
        int[] deep = {-16, -17, -19, -20, -22, -24, -25, -27, -28, -30};
        for (int weight = 0; weight <= 7; weight++) {
            y.leaf(0, weight, 0);
            z.leaf(1, weight, 0);
            said.is("weight " + weight + " by 100", y.about(weight, 4), pulls[weight]);
            said.is("weight " + weight + " by 1600", z.about(weight, 4), deep[weight]);
        }
        for (int weight = 8; weight <= 9; weight++) {
            LeavesInCups one = Edges.after("r2h2f9w0m0", TURNED, 40, 2);
            one.leaf(1, weight, 0);
            said.is("weight " + weight + " by 1600", one.about(0, 4), deep[weight]);
        }
        LeavesInCups under = Edges.after("r2h2f9w0m0", TURNED, 38, 2);
        under.leaf(0, 9, 0);
        said.is("-14 less 12996 by 1000", under.about(0, 4), -26);
        LeavesInCups wall = Edges.after("r2h2f0w9m0", STIRRED, 20, 1);
        wall.leaf(0, 0, 0);
        wall.leaf(1, 0, 0);
        said.is("of its ring", wall.about(0, 4), 4);
        said.is("of its ring, by the wall", wall.about(1, 4), 0);
        above();
        below();
    }

    /** A round of so many above the floor at rest, which is got to by two ticks, and a leaf that sticks. */
    private int wentIn(int round, int stick) {
        LeavesInCups x = Edges.after("r4h2f0w0m0", STIRRED, round / 2, 2);
        x.leaf(2, 0, stick);
        x.ticks(NONE, 1);
        return 2 - x.about(0, 0);
    }

    /** A round of so many at the floor, with nothing above it, and a leaf that sticks. */
    private int wentOut(int round, int stick) {
        LeavesInCups x = Edges.after("r4h2f9w0m0", TURNED, round, 3);
        x.leaf(1, 0, stick);
        x.ticks(0, 1);
        return x.about(0, 0) - 1;
    }

    private void above() {
        said.says("above STICK it goes a RING inwards,");
        // The least even round whose square by 100 is above the stick.
        int[] round = {10, 16, 18, 20, 24, 26, 28, 30, 30, 32};
        for (int stick = 0; stick <= 9; stick++) {
            said.is("stick " + stick, wentIn(round[stick], stick), 1);
            said.is("stick " + stick + " just holds", wentIn(round[stick] - 2, stick), 0);
        }
        said.is("one ring, however much it is", wentIn(40, 0), 1);
    }

    private void below() {
        said.says("below 0 less STICK a RING outwards,");
        // The least round whose square by 100 is above the stick.
        int[] round = {10, 15, 18, 20, 23, 25, 27, 29, 30, 32};
        for (int stick = 0; stick <= 9; stick++) {
            said.is("stick " + stick, wentOut(round[stick], stick), 1);
            said.is("stick " + stick + " just holds", wentOut(round[stick] - 1, stick), 0);
        }
        said.is("one ring, however much it is", wentOut(40, 0), 1);
        said.says("as long as there is one.");
        LeavesInCups in = Edges.after("r3h2f0w0m0", STIRRED, 10, 1);
        in.leaf(2, 0, 0);
        in.leaf(0, 0, 0);
        said.is("both go where they can", in.ticks(NONE, 2), 1);
        said.is("to the heap", in.about(0, 0), 0);
        said.is("none goes further", in.ticks(NONE, 100), 0);
        said.is("it stays there", in.about(1, 0), 0);
        LeavesInCups out = Edges.after("r3h2f9w0m0", TURNED, 40, 2);
        out.leaf(0, 0, 0);
        out.leaf(2, 0, 0);
        said.is("both go where they can", out.ticks(0, 2), 1);
        said.is("to the rim", out.about(0, 0), 2);
        said.is("none goes further", out.ticks(0, 100), 0);
        said.is("it stays there", out.about(1, 0), 2);
    }

    private void ticks() {
        said.in("Promise 13");
        said.says("So many TICKS (1 to 100) of a DOING");
        LeavesInCups x = Made.withCup("r2h2f0w0m3");
        x.doing(STIRRED, 1);
        LeavesInCups y = Made.withCup("r2h2f0w0m3");
        y.doing(STIRRED, 1);
        said.is("100 at once", x.ticks(0, 100), 0);
        Edges.rounds(said, x, 0, 47, 53);
        for (int i = 0; i < 99; i++) {
            y.ticks(0, 1);
        }
        Edges.rounds(said, y, 0, 47, 52);
        said.is("the hundredth", y.ticks(0, 1), 0);
        Edges.rounds(said, y, 0, 47, 53);
        said.says("(NONE: of a REST):");
        LeavesInCups rest = Edges.after("r2h2f9w0m0", TURNED, 40, 2);
        LeavesInCups told = Edges.after("r2h2f9w0m0", TURNED, 40, 2);
        said.is("NONE", rest.ticks(NONE, 1), 0);
        Edges.then(told, REST, 0, 1);
        said.is("of NONE", rest.round(0, 0), 4);
        said.is("of a rest", told.round(0, 0), 4);
        said.says("how many LEAVES are in another RING than ahead of all.");
        said.is("without leaves", Edges.after("r2h2f0w0m0", STIRRED, 20, 1).ticks(0, 1), 0);
        LeavesInCups eight = Edges.after("r6h2f0w0m0", STIRRED, 20, 1);
        for (int leaf = 0; leaf < 8; leaf++) {
            eight.leaf(leaf % 6, 0, leaf == 5 ? 9 : 0);
        }
        said.is("all but two in the heap and one that sticks", eight.ticks(NONE, 5), 5);
        said.is("none more", eight.ticks(NONE, 5), 0);
        // The second turning is 3 at first; the floor goes 4, 8, 12, 15, 18, 21, then 23: -1.
        LeavesInCups back = Edges.after("r2h2f1w0m0", STIRRED, 20, 1);
        back.leaf(1, 0, 0);
        int turned = back.doing(TURNED, 40);
        back.image();
        said.is("in by six", back.ticks(turned, 6), 1);
        said.is("in the heap", back.about(0, 0), 0);
        back.restore();
        said.is("in, and out again by the seventh", back.ticks(turned, 7), 0);
        said.is("where it was", back.about(0, 0), 1);
        Edges.rounds(said, back, 1, 23, 20);
    }

    private void ticksRefused() {
        said.says("UNKNOWN: doing;");
        LeavesInCups x = Made.withCup("r2h2f0w0m0");
        said.is("without doings", x.ticks(0, 1), UNKNOWN);
        x.doing(STIRRED, 1);
        x.doing(STIRRED, 1);
        for (int doing : new int[] {-2, 2, 8, Edges.LEAST, Edges.MOST, UNKNOWN}) {
            Edges.refused(said, "ticks(" + doing + ", 1)", x, z -> z.ticks(doing, 1), UNKNOWN);
            Edges.refused(said, "UNKNOWN ahead of OUTSIDE", x, z -> z.ticks(doing, 0), UNKNOWN);
            said.is("UNKNOWN ahead of STATE", new LeavesInCups().ticks(doing, 1), UNKNOWN);
        }
        said.says("STATE;");
        LeavesInCups none = new LeavesInCups();
        none.doing(STIRRED, 1);
        for (int many : new int[] {1, 0, 100, 101, Edges.LEAST}) {
            said.is("no cup: ticks(0, " + many + ")", none.ticks(0, many), STATE);
            said.is("no cup: ticks(NONE, " + many + ")", none.ticks(NONE, many), STATE);
        }
        said.says("OUTSIDE.");
        for (int many : Edges.beyond(1, 100)) {
            Edges.refused(said, "ticks(0, " + many + ")", x, z -> z.ticks(0, many), OUTSIDE);
            Edges.refused(said, "ticks(NONE, " + many + ")", x, z -> z.ticks(NONE, many), OUTSIDE);
        }
        said.in("Terms");
        said.says("(STATE: no CUP).");
        said.is("ticks", none.ticks(0, 1), STATE);
        said.is("still", none.still(), STATE);
        said.is("round tells none", none.round(0, 0), NO_ROUND);
        said.is("second tells none", none.second(0), NO_ROUND);
        said.is("would tells none", none.would(0, 1, 0), NO_ROUND);
    }

    private void still() {
        said.in("Promise 14");
        said.says("Water is still, LEAVES lie where they were told: 1.");
        LeavesInCups x = Made.withCup("r6h4f9w9m9");
        for (int leaf = 0; leaf < 8; leaf++) {
            x.leaf(leaf % 6, leaf, 0);
            x.seen(leaf, 5 - leaf % 6);
        }
        x.want(5, 8);
        Edges.then(x, STIRRED, 20, 60);
        Edges.then(x, TURNED, 40, 40);
        said.is("still()", x.still(), 1);
        for (int ring = 0; ring < 6; ring++) {
            Edges.rounds(said, x, ring, 0, 0, 0, 0);
        }
        for (int leaf = 0; leaf < 8; leaf++) {
            said.is("where it was told", x.about(leaf, 0), leaf % 6);
            said.is("seen as it was", x.about(leaf, 5), 5 - leaf % 6);
        }
        said.is("wanted as it was", x.want(5, 8), 8);
        said.is("still() of still water", x.still(), 1);
        said.is("without leaves", Made.withCup("r2h2f0w0m0").still(), 1);
        said.says("STATE.");
        Edges.refused(said, "without a cup", new LeavesInCups(), LeavesInCups::still, STATE);
    }

    private void round() {
        said.in("Promise 15");
        said.says("The ROUND of a CELL.");
        LeavesInCups x = Edges.after("r6h4f9w5m0", TURNED, 40, 1);
        Edges.rounds(said, x, 0, 36, 0, 0, 0);
        Edges.rounds(said, x, 4, 36, 0, 0, 0);
        Edges.rounds(said, x, 5, 38, 20, 20, 20);
        said.says("-1001: UNKNOWN: ring, height (without a CUP, too).");
        LeavesInCups small = Made.withCup("r2h2f0w0m0");
        for (int wrong : Edges.beyond(0, 1)) {
            said.is("round(" + wrong + ", 0)", small.round(wrong, 0), NO_ROUND);
            said.is("round(0, " + wrong + ")", small.round(0, wrong), NO_ROUND);
            said.is("both", small.round(wrong, wrong), NO_ROUND);
        }
        said.is("round(6, 0)", x.round(6, 0), NO_ROUND);
        said.is("round(0, 4)", x.round(0, 4), NO_ROUND);
        said.is("without a cup", new LeavesInCups().round(0, 0), NO_ROUND);
    }

    private void second() {
        said.in("Promise 16");
        said.says("SECOND of a RING (it may be below 0).");
        LeavesInCups x = Edges.after("r6h4f9w0m0", TURNED, 40, 2);
        said.is("below 0", x.second(0), -16);
        said.is("of the last ring", x.second(5), -16);
        said.is("0 at first", Made.withCup("r2h2f0w0m0").second(1), 0);
        said.is("the most", Edges.after("r2h2f0w0m0", AGAINST, 20, 5).second(1), 98);
        said.says("-1001: UNKNOWN (without a CUP, too).");
        for (int ring : Edges.beyond(0, 5)) {
            said.is("second(" + ring + ")", x.second(ring), NO_ROUND);
        }
        said.is("of two rings: second(2)", Made.withCup("r2h2f0w0m0").second(2), NO_ROUND);
        said.is("without a cup", new LeavesInCups().second(0), NO_ROUND);
    }

    private void would() {
        said.in("Promise 17");
        said.says("What SECOND of a RING would be behind so many TICKS (1 to 100) of a DOING");
        LeavesInCups x = Made.withCup("r2h2f0w0m3");
        x.doing(STIRRED, 1);
        x.doing(AGAINST, 20);
        x.doing(STRAWED, 0);
        // 53 over 47, and a tick ahead 52 over 47.
        said.is("100 ticks", x.would(0, 100, 0), 6);
        said.is("99 ticks", x.would(0, 99, 0), 4);
        said.is("one tick against: 17 over 3", x.would(1, 1, 1), 2);
        said.is("a straw in still water", x.would(2, 100, 0), 0);
        LeavesInCups wall = Made.withCup("r2h2f0w9m0");
        wall.doing(STIRRED, 20);
        said.is("in the middle", wall.would(0, 1, 0), 4);
        said.is("by the wall", wall.would(0, 1, 1), 0);
        said.says("from still water.");
        x.leaf(1, 0, 0);
        x.ticks(1, 3);
        long ahead = x.digest();
        said.is("one tick against, still", x.would(1, 1, 1), 2);
        said.is("it is not done", x.digest(), ahead);
        said.says("-1001: UNKNOWN: doing, ring;");
        for (int doing : Edges.beyond(0, 2)) {
            Edges.refused(said, "would(" + doing + ", 1, 0)", x, z -> z.would(doing, 1, 0), NO_ROUND);
            Edges.refused(said, "ahead of -1002", x, z -> z.would(doing, 0, 0), NO_ROUND);
        }
        for (int ring : Edges.beyond(0, 1)) {
            Edges.refused(said, "would(0, 1, " + ring + ")", x, z -> z.would(0, 1, ring), NO_ROUND);
            Edges.refused(said, "ahead of -1002", x, z -> z.would(0, 101, ring), NO_ROUND);
        }
        said.is("NONE names no doing", x.would(NONE, 1, 0), NO_ROUND);
        LeavesInCups none = new LeavesInCups();
        none.doing(STIRRED, 1);
        said.is("without a cup", none.would(0, 1, 0), NO_ROUND);
        said.is("without a cup, ahead of -1002", none.would(0, 0, 0), NO_ROUND);
        said.says("-1002: OUTSIDE.");
        for (int many : Edges.beyond(1, 100)) {
            Edges.refused(said, "would(0, " + many + ", 0)", x, z -> z.would(0, many, 0), NO_TICKS);
        }
    }
}
