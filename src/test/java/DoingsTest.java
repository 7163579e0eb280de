/** Promises 9 to 12: doings and leaves. */
public final class DoingsTest {
    private static final int NONE = -1, UNKNOWN = -101, OUTSIDE = -102, FULL = -104;
    private static final int LEAST = Integer.MIN_VALUE, MOST = Integer.MAX_VALUE;
    private static final Due due = new Due();

    private static void refused(int kind, int n) {
        LeavesInCups x = new LeavesInCups();
        due.is("doing(" + kind + ", " + n + ")", x.doing(kind, n), OUTSIDE);
        due.is("none came", x.count(1), 0);
    }

    private static void taken(int kind, int n) {
        due.is("doing(" + kind + ", " + n + ")", new LeavesInCups().doing(kind, n), 0);
    }

    private static void promise9() {
        int[][] wrong = {
            {-1, 0}, {5, 0}, {5, 1}, {LEAST, 0}, {MOST, 1}, {0, 1}, {0, -1}, {4, 1}, {4, -1}, {1, 0}, {1, 21}, {1, -5},
            {2, 0}, {2, 21}, {3, 0}, {3, 41}, {3, -1}, {1, MOST}, {3, LEAST},
        };
        for (int[] w : wrong) {
            refused(w[0], w[1]);
        }
        int[][] right = {{0, 0}, {1, 1}, {1, 20}, {2, 1}, {2, 20}, {3, 1}, {3, 21}, {3, 40}, {4, 0}};
        for (int[] r : right) {
            taken(r[0], r[1]);
        }
        LeavesInCups x = new LeavesInCups();
        for (int i = 0; i < 8; i++) {
            due.is("doings are numbered", x.doing(i % 4 + 1, i % 4 == 3 ? 0 : 7), i);
        }
        due.is("a ninth", x.doing(0, 0), FULL);
        due.is("OUTSIDE ahead of FULL", x.doing(0, 1), OUTSIDE);
        due.is("eight doings", x.count(1), 8);
    }

    private static void promise10() {
        LeavesInCups x = new LeavesInCups();
        x.doing(4, 0);
        x.doing(3, 5);
        x.doing(2, 5);
        x.doing(1, 5);
        x.doing(0, 0);
        int[][] casts = {
            {0, NONE, NONE, NONE, 0},
            {1, NONE, NONE, 1, NONE},
            {2, 2, 2, NONE, NONE},
            {3, 3, NONE, NONE, NONE},
            {4, NONE, NONE, NONE, NONE},
        };
        for (int doing = 0; doing < 5; doing++) {
            int[] to = casts[doing];
            due.is("as a rest: " + doing, x.as(doing, 0), doing);
            for (int kind = 1; kind <= 4; kind++) {
                due.is("as(" + doing + ", " + kind + ")", x.as(doing, kind), to[kind]);
            }
        }
        due.is("as(-1, 0)", x.as(-1, 0), UNKNOWN);
        due.is("as(5, 0)", x.as(5, 0), UNKNOWN);
        due.is("as(0, -1)", x.as(0, -1), OUTSIDE);
        due.is("as(0, 5)", x.as(0, 5), OUTSIDE);
        due.is("UNKNOWN ahead of OUTSIDE", x.as(5, 5), UNKNOWN);
        due.is("as(MOST, 1)", x.as(MOST, 1), UNKNOWN);
    }

    private static void promise11() {
        LeavesInCups none = new LeavesInCups();
        due.is("without a cup", none.leaf(0, 0, 0), UNKNOWN);
        LeavesInCups x = Made.withCup("r3h2f0w0m0");
        due.is("leaf(-1, 0, 0)", x.leaf(-1, 0, 0), UNKNOWN);
        due.is("leaf(3, 0, 0)", x.leaf(3, 0, 0), UNKNOWN);
        due.is("UNKNOWN ahead of OUTSIDE", x.leaf(3, 10, 0), UNKNOWN);
        due.is("leaf(0, -1, 0)", x.leaf(0, -1, 0), OUTSIDE);
        due.is("leaf(0, 10, 0)", x.leaf(0, 10, 0), OUTSIDE);
        due.is("leaf(0, 0, -1)", x.leaf(0, 0, -1), OUTSIDE);
        due.is("leaf(0, 0, 10)", x.leaf(0, 0, 10), OUTSIDE);
        due.is("none came", x.count(2), 0);
        for (int i = 0; i < 8; i++) {
            due.is("leaves are numbered", x.leaf(i % 3, i % 2 * 9, 9 - i), i);
        }
        due.is("a ninth", x.leaf(0, 0, 0), FULL);
        due.is("OUTSIDE ahead of FULL", x.leaf(0, 10, 0), OUTSIDE);
        due.is("UNKNOWN ahead of FULL", x.leaf(3, 0, 0), UNKNOWN);
        due.is("eight leaves", x.count(2), 8);
        Made.cup(x, "r2h2f0w0m0");
        due.is("numbered anew in another cup", x.leaf(1, 0, 0), 0);
        due.is("its ring", x.about(0, 0), 1);
    }

    private static void promise12() {
        LeavesInCups x = Made.withCup("r4h2f9w0m0");
        x.doing(3, 40);
        x.leaf(1, 9, 4);
        x.leaf(2, 1, 0);
        x.leaf(3, 0, 9);
        due.is("its ring", x.about(0, 0), 1);
        due.is("its ring as told", x.about(0, 1), 1);
        due.is("its weight", x.about(0, 2), 9);
        due.is("its stick", x.about(0, 3), 4);
        due.is("its pull in still water", x.about(0, 4), 0);
        due.is("not seen", x.about(0, 5), -1);
        // The floor goes 36: second is -1296 by 100, so -12; weight 9 takes 11664 by 1000 more.
        x.ticks(0, 1);
        due.is("moved outwards", x.about(0, 0), 2);
        due.is("still told where it was", x.about(0, 1), 1);
        due.is("its pull", x.about(0, 4), -23);
        due.is("pull of a light one", x.about(1, 4), -13);
        due.is("pull without weight", x.about(2, 4), -12);
        x.ticks(0, 1);
        // The floor goes 40: second is -16; weight 9 takes 14400 by 1000 more.
        due.is("its pull then", x.about(0, 4), -30);
        due.is("that of a light one then", x.about(1, 4), -17);
        x.seen(0, 3);
        due.is("seen", x.about(0, 5), 3);
        due.is("about(0, -1)", x.about(0, -1), OUTSIDE);
        due.is("about(0, 6)", x.about(0, 6), OUTSIDE);
        due.is("about(-1, 0)", x.about(-1, 0), UNKNOWN);
        due.is("about(3, 0)", x.about(3, 0), UNKNOWN);
        due.is("UNKNOWN ahead of OUTSIDE", x.about(3, 6), UNKNOWN);
        due.is("without a leaf", new LeavesInCups().about(0, 0), UNKNOWN);

        LeavesInCups y = Made.withCup("r2h2f9w0m0");
        y.doing(3, 40);
        y.leaf(1, 5, 9);
        y.ticks(0, 2);
        due.is("8000 by 1000", y.about(0, 4), -24);
        LeavesInCups z = Made.withCup("r2h3f0w0m5");
        z.doing(1, 20);
        z.leaf(1, 9, 9);
        z.ticks(0, 100);
        due.is("the floor follows", z.round(1, 0), 96);
        // Second is 9801 less 9216 by 100, so 5; weight 9 takes 82944 by 1000.
        due.is("82944 by 1000", z.about(0, 4), -77);
    }

    public static void main(String[] args) {
        promise9();
        promise10();
        promise11();
        promise12();
        due.end();
    }
}
