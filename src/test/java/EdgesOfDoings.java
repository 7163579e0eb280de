/** What the document says of doings and leaves, promises 9 to 12. */
final class EdgesOfDoings {
    private static final int NONE = Edges.NONE, UNKNOWN = Edges.UNKNOWN, OUTSIDE = Edges.OUTSIDE, FULL = Edges.FULL;
    private static final int REST = Edges.REST, STIRRED = Edges.STIRRED, AGAINST = Edges.AGAINST;
    private static final int TURNED = Edges.TURNED, STRAWED = Edges.STRAWED;
    private static final int[] LEAST_N = {0, 1, 1, 1, 0};
    private static final int[] MOST_N = {0, 20, 20, 40, 0};

    private final Said said;

    EdgesOfDoings(Said said) {
        this.said = said;
    }

    void all() {
        doingsInTerms();
        leavesInTerms();
        doing();
        as();
        leaf();
        aboutWhat();
        aboutRefused();
    }

    private void doingsInTerms() {
        said.in("Terms");
        said.says("DOINGS (8 at most, numbered)");
        LeavesInCups x = new LeavesInCups();
        for (int number = 0; number < 8; number++) {
            said.is("the next", x.doing(REST, 0), number);
        }
        said.is("a ninth", x.doing(REST, 0), FULL);
        said.is("a ninth once more", x.doing(TURNED, 40), FULL);
        said.says("are of KINDS: 0 REST, 1 STIRRED, 2 AGAINST, 3 TURNED, 4 STRAWED,");
        // Floor 4 and 6 above it; behind each kind (of 2) the floor drags by half, and 9 twentieths mix.
        int[][] then = {{3, 5}, {4, 6}, {2, 4}, {4, 5}, {1, 3}};
        for (int kind = REST; kind <= STRAWED; kind++) {
            LeavesInCups y = Edges.after("r2h2f5w0m9", STIRRED, 10, 1);
            Edges.rounds(said, y, 0, 4, 6);
            Edges.then(y, kind, Math.min(2, MOST_N[kind]), 1);
            Edges.rounds(said, y, 0, then[kind]);
            LeavesInCups told = new LeavesInCups();
            told.doing(kind, MOST_N[kind]);
            said.is("its kind and n", told.digest(), Edges.digestOf(kind, MOST_N[kind], 0, 1, 0, 0, 0, 0, 0, 0, 0));
        }
        said.says("with a number n (STIRRED, AGAINST 1 to 20; TURNED 1 to 40; else 0).");
        for (int kind = REST; kind <= STRAWED; kind++) {
            for (int n = -45; n <= 45; n++) {
                int want = n >= LEAST_N[kind] && n <= MOST_N[kind] ? 0 : OUTSIDE;
                said.is("doing(" + kind + ", " + n + ")", new LeavesInCups().doing(kind, n), want);
            }
        }
        said.says("All are RESTS; an AGAINST is STIRRED, too.");
        int[][] is = {{1, 0, 0, 0, 0}, {1, 1, 0, 0, 0}, {1, 1, 1, 0, 0}, {1, 0, 0, 1, 0}, {1, 0, 0, 0, 1}};
        for (int kind = REST; kind <= STRAWED; kind++) {
            for (int asked = REST; asked <= STRAWED; asked++) {
                LeavesInCups z = new LeavesInCups();
                z.doing(kind, MOST_N[kind]);
                said.is("kind " + kind + " as " + asked, z.as(0, asked), is[kind][asked] == 1 ? 0 : NONE);
            }
        }
    }

    private void leavesInTerms() {
        said.says("LEAVES (8 at most, numbered) lie in a RING,");
        LeavesInCups x = Made.withCup("r6h2f0w0m0");
        for (int number = 0; number < 8; number++) {
            said.is("the next", x.leaf(number % 6, 0, 0), number);
            said.is("its ring", x.about(number, 0), number % 6);
        }
        said.is("a ninth", x.leaf(0, 0, 0), FULL);
        said.says("with WEIGHT (0 to 9) and STICK (0 to 9).");
        for (int size = -3; size <= 12; size++) {
            int want = size >= 0 && size <= 9 ? 0 : OUTSIDE;
            said.is("weight " + size, Made.withCup("r2h2f0w0m0").leaf(0, size, 5), want);
            said.is("stick " + size, Made.withCup("r2h2f0w0m0").leaf(1, 5, size), want);
        }
    }

    private void doing() {
        said.in("Promise 9");
        said.says("A DOING: its number.");
        LeavesInCups x = new LeavesInCups();
        int[][] told = {{0, 0}, {1, 1}, {1, 20}, {2, 1}, {2, 20}, {3, 1}, {3, 40}, {4, 0}};
        for (int number = 0; number < 8; number++) {
            said.is("the next", x.doing(told[number][0], told[number][1]), number);
        }
        said.is("all are kept", x.digest(), Edges.digestOf(0, 0, 1, 1, 1, 20, 2, 1, 2, 20, 3, 1, 3, 40, 4, 0,
            0, 8, 0, 0, 0, 0, 0, 0, 0));
        said.says("OUTSIDE: kind, n;");
        LeavesInCups y = new LeavesInCups();
        for (int kind : Edges.beyond(REST, STRAWED)) {
            for (int n = 0; n <= 1; n++) {
                int number = n;
                Edges.refused(said, "doing(" + kind + ", " + n + ")", y, z -> z.doing(kind, number), OUTSIDE);
            }
        }
        for (int kind = REST; kind <= STRAWED; kind++) {
            int of = kind;
            for (int n : Edges.beyond(LEAST_N[kind], MOST_N[kind])) {
                Edges.refused(said, "doing(" + kind + ", " + n + ")", y, z -> z.doing(of, n), OUTSIDE);
            }
        }
        said.is("none came", y.doing(REST, 0), 0);
        said.says("FULL.");
        Edges.refused(said, "a ninth", x, z -> z.doing(STIRRED, 5), FULL);
        Edges.refused(said, "OUTSIDE ahead of FULL: kind", x, z -> z.doing(5, 0), OUTSIDE);
        Edges.refused(said, "OUTSIDE ahead of FULL: n", x, z -> z.doing(STIRRED, 21), OUTSIDE);
    }

    private void as() {
        said.in("Promise 10");
        LeavesInCups x = new LeavesInCups();
        x.doing(STRAWED, 0);
        x.doing(TURNED, 1);
        x.doing(AGAINST, 1);
        x.doing(STIRRED, 1);
        x.doing(REST, 0);
        x.doing(REST, 0);
        x.doing(REST, 0);
        x.doing(AGAINST, 20);
        said.says("A DOING taken as a KIND: its own number (not that of the KIND);");
        for (int doing = 0; doing < 8; doing++) {
            said.is("any is a rest", x.as(doing, REST), doing);
        }
        said.is("straw", x.as(0, STRAWED), 0);
        said.is("turned", x.as(1, TURNED), 1);
        said.is("against", x.as(2, AGAINST), 2);
        said.is("against is stirred, too", x.as(2, STIRRED), 2);
        said.is("stirred", x.as(3, STIRRED), 3);
        said.is("the eighth", x.as(7, STIRRED), 7);
        said.says("NONE: it is none such (the cast fails).");
        said.is("stirred is not against", x.as(3, AGAINST), NONE);
        said.is("a rest is not stirred", x.as(4, STIRRED), NONE);
        said.is("turned is not stirred", x.as(1, STIRRED), NONE);
        said.is("straw is not turned", x.as(0, TURNED), NONE);
        said.is("turned is no straw", x.as(1, STRAWED), NONE);
        said.says("UNKNOWN;");
        LeavesInCups one = new LeavesInCups();
        one.doing(STIRRED, 1);
        for (int doing : Edges.beyond(0, 0)) {
            Edges.refused(said, "as(" + doing + ", 0)", one, z -> z.as(doing, REST), UNKNOWN);
            Edges.refused(said, "UNKNOWN ahead of OUTSIDE", one, z -> z.as(doing, 5), UNKNOWN);
        }
        for (int doing : Edges.beyond(0, 7)) {
            Edges.refused(said, "of eight: as(" + doing + ", 0)", x, z -> z.as(doing, REST), UNKNOWN);
        }
        said.is("without doings", new LeavesInCups().as(0, REST), UNKNOWN);
        said.says("OUTSIDE.");
        for (int kind : Edges.beyond(REST, STRAWED)) {
            Edges.refused(said, "as(0, " + kind + ")", one, z -> z.as(0, kind), OUTSIDE);
        }
    }

    private void leaf() {
        said.in("Promise 11");
        said.says("A LEAF: its number.");
        LeavesInCups x = Made.withCup("r6h2f0w0m0");
        int[][] told = {{0, 0, 0}, {5, 9, 9}, {0, 9, 0}, {5, 0, 9}, {1, 1, 1}, {2, 2, 2}, {3, 3, 3}, {4, 4, 4}};
        for (int number = 0; number < 8; number++) {
            int[] t = told[number];
            said.is("the next", x.leaf(t[0], t[1], t[2]), number);
            for (int what = 1; what <= 3; what++) {
                said.is("about(" + number + ", " + what + ")", x.about(number, what), t[what - 1]);
            }
        }
        said.says("UNKNOWN: ring (without a CUP, too);");
        LeavesInCups two = Made.withCup("r2h2f0w0m0");
        for (int ring : Edges.beyond(0, 1)) {
            Edges.refused(said, "leaf(" + ring + ", 0, 0)", two, z -> z.leaf(ring, 0, 0), UNKNOWN);
            Edges.refused(said, "UNKNOWN ahead of OUTSIDE: weight", two, z -> z.leaf(ring, 10, 0), UNKNOWN);
            Edges.refused(said, "UNKNOWN ahead of OUTSIDE: stick", two, z -> z.leaf(ring, 0, 10), UNKNOWN);
            Edges.refused(said, "UNKNOWN ahead of FULL", x, z -> z.leaf(ring < 0 ? ring : Math.max(6, ring), 0, 0), UNKNOWN);
        }
        for (int ring = -1; ring <= 6; ring++) {
            said.is("without a cup: leaf(" + ring + ", 0, 0)", new LeavesInCups().leaf(ring, 0, 0), UNKNOWN);
        }
        said.is("without a cup, ahead of OUTSIDE", new LeavesInCups().leaf(0, 10, 10), UNKNOWN);
        said.says("OUTSIDE: weight, stick;");
        for (int size : Edges.beyond(0, 9)) {
            Edges.refused(said, "leaf(0, " + size + ", 0)", two, z -> z.leaf(0, size, 0), OUTSIDE);
            Edges.refused(said, "leaf(0, 0, " + size + ")", two, z -> z.leaf(0, 0, size), OUTSIDE);
            Edges.refused(said, "OUTSIDE ahead of FULL: weight", x, z -> z.leaf(0, size, 0), OUTSIDE);
            Edges.refused(said, "OUTSIDE ahead of FULL: stick", x, z -> z.leaf(0, 0, size), OUTSIDE);
        }
        said.says("FULL.");
        Edges.refused(said, "a ninth", x, z -> z.leaf(0, 0, 0), FULL);
        Edges.refused(said, "a ninth", x, z -> z.leaf(5, 9, 9), FULL);
    }

    private void aboutWhat() {
        said.in("Promise 12");
        // Stirred by 30 in all; the wall takes nine tenths of it in the last ring.
        LeavesInCups x = Made.withCup("r6h2f0w9m0");
        x.leaf(4, 0, 7);
        x.leaf(5, 9, 8);
        for (int leaf = 2; leaf < 8; leaf++) {
            x.leaf(0, 3, 2);
        }
        Edges.then(x, STIRRED, 15, 2);
        said.says("Of a LEAF: what = 0 the RING in which it is,");
        said.is("it went in", x.about(0, 0), 3);
        said.is("it stayed", x.about(1, 0), 5);
        said.is("the eighth", x.about(7, 0), 0);
        said.says("1 that in which it was told,");
        said.is("it was told", x.about(0, 1), 4);
        said.is("the eighth", x.about(7, 1), 0);
        said.says("2 WEIGHT,");
        said.is("the least", x.about(0, 2), 0);
        said.is("the most", x.about(1, 2), 9);
        said.says("3 STICK,");
        said.is("stick", x.about(0, 3), 7);
        said.is("stick", x.about(7, 3), 2);
        said.says("4 PULL now,");
        said.is("of its ring", x.about(0, 4), 9);
        said.is("the wall leaves 1", x.about(1, 4), 0);
        LeavesInCups y = Edges.after("r3h2f9w0m0", TURNED, 40, 2);
        y.leaf(1, 9, 9);
        said.is("below 0: -16 less 14", y.about(0, 4), -30);
        y.leaf(1, 0, 0);
        said.is("without weight", y.about(1, 4), -16);
        y.still();
        said.is("in still water", y.about(0, 4), 0);
        said.says("5 SEEN (NONE).");
        said.is("not seen", y.about(1, 5), NONE);
        y.seen(1, 0);
        said.is("seen in the middle", y.about(1, 5), 0);
        y.seen(1, 2);
        said.is("seen at the rim", y.about(1, 5), 2);
        y.seen(1, NONE);
        said.is("not seen again", y.about(1, 5), NONE);
        said.is("nor is the other", y.about(0, 5), NONE);
    }

    private void aboutRefused() {
        said.says("UNKNOWN;");
        LeavesInCups x = Made.withCup("r2h2f0w0m0");
        said.is("without leaves", x.about(0, 0), UNKNOWN);
        said.is("without a cup", new LeavesInCups().about(0, 1), UNKNOWN);
        x.leaf(0, 0, 0);
        x.leaf(0, 0, 0);
        for (int leaf : Edges.beyond(0, 1)) {
            for (int what = 0; what <= 5; what++) {
                said.is("about(" + leaf + ", " + what + ")", x.about(leaf, what), UNKNOWN);
            }
            Edges.refused(said, "UNKNOWN ahead of OUTSIDE", x, z -> z.about(leaf, 6), UNKNOWN);
            Edges.refused(said, "UNKNOWN ahead of OUTSIDE", x, z -> z.about(leaf, -1), UNKNOWN);
        }
        said.says("OUTSIDE.");
        for (int what : Edges.beyond(0, 5)) {
            Edges.refused(said, "about(1, " + what + ")", x, z -> z.about(1, what), OUTSIDE);
        }
    }
}
