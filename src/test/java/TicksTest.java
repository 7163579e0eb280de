/** Promises 13 to 17: ticks, still water, rounds, the second turning. */
public final class TicksTest {
    private static final int NONE = -1, UNKNOWN = -101, OUTSIDE = -102, STATE = -103;
    private static final int NO_ROUND = -1001, NO_TICKS = -1002;
    private static final int REST = 0, STIRRED = 1, AGAINST = 2, TURNED = 3, STRAWED = 4;
    private static final Due due = new Due();

    /** Rounds of a ring from the floor up. */
    private static void rounds(String when, LeavesInCups x, int ring, int... wanted) {
        for (int height = 0; height < wanted.length; height++) {
            due.is(when + ": round(" + ring + ", " + height + ")", x.round(ring, height), wanted[height]);
        }
    }

    private static LeavesInCups after(String cup, int kind, int n, int many) {
        LeavesInCups x = Made.withCup(cup);
        x.doing(kind, n);
        x.ticks(0, many);
        return x;
    }

    private static void stirring() {
        rounds("stirred", after("r2h3f0w0m0", STIRRED, 5, 1), 0, 0, 5, 5);
        rounds("stirred, in the largest cup", after("r6h4f0w0m0", STIRRED, 5, 2), 5, 0, 10, 10, 10);
        rounds("against by 1", after("r2h2f0w0m0", AGAINST, 1, 1), 0, 0, -1);
        rounds("stirred, 99 at most", after("r2h2f0w0m0", STIRRED, 20, 5), 1, 0, 99);
        rounds("against", after("r2h3f0w0m0", AGAINST, 5, 2), 1, 0, -10, -10);
        rounds("against, -99 at least", after("r2h2f0w0m0", AGAINST, 20, 5), 0, 0, -99);
        rounds("a rest", after("r2h2f0w0m0", REST, 0, 9), 0, 0, 0);
        rounds("turned", after("r2h2f0w0m0", TURNED, 40, 1), 0, 0, 0);
        LeavesInCups x = after("r2h2f0w0m0", STIRRED, 20, 5);
        x.doing(STRAWED, 0);
        x.ticks(1, 1);
        rounds("strawed", x, 0, 0, 49);
        rounds("strawed, but not there", x, 1, 0, 99);
        LeavesInCups w = after("r6h4f0w0m0", STIRRED, 9, 1);
        w.doing(STRAWED, 0);
        w.ticks(1, 1);
        rounds("strawed, in the largest cup", w, 0, 0, 4, 4, 4);
        rounds("strawed, but not there", w, 1, 0, 9, 9, 9);
        LeavesInCups y = after("r2h2f0w0m0", AGAINST, 5, 1);
        y.doing(STRAWED, 0);
        y.ticks(1, 1);
        rounds("half, towards 0", y, 0, 0, -2);
        LeavesInCups z = after("r2h2f1w0m0", TURNED, 15, 1);
        z.doing(STRAWED, 0);
        rounds("all but a tenth", z, 0, 2, 0);
        z.ticks(0, 99);
        rounds("as the cup goes, but for what a quotient takes", z, 0, 15, 0);
        z.ticks(1, 1);
        rounds("the floor is strawed, too, and then dragged", z, 0, 6, 0);
    }

    private static void dragging() {
        LeavesInCups x = after("r2h2f3w0m0", TURNED, 40, 1);
        rounds("dragged by the floor", x, 0, 12, 0);
        rounds("at the rim likewise", x, 1, 12, 0);
        x.ticks(0, 1);
        rounds("28 less become 19 less", x, 0, 21, 0);
        x.ticks(NONE, 1);
        rounds("a rest drags towards 0", x, 0, 14, 0);
        rounds("dragged by the wall", after("r2h2f0w4m0", TURNED, 10, 1), 1, 4, 4);
        rounds("but in the last ring alone", after("r2h2f0w4m0", TURNED, 10, 1), 0, 0, 0);
        rounds("square: by twice the wall", after("r2h2f0w4m0q", TURNED, 10, 1), 1, 8, 8);
        rounds("square: 10 tenths", after("r2h2f0w5m0q", TURNED, 40, 1), 1, 40, 40);
        rounds("square: 10 tenths at most", after("r3h2f0w9m0q", TURNED, 40, 1), 2, 40, 40);
        rounds("not square: 9 tenths", after("r2h2f0w9m0", TURNED, 40, 1), 1, 36, 36);
        rounds("the largest cup", after("r6h4f0w9m0q", TURNED, 40, 1), 5, 40, 40, 40, 40);
        rounds("by the floor, then by the wall", after("r2h2f5w5m0", TURNED, 20, 1), 1, 15, 10);
        rounds("stirred, then dragged", after("r2h2f0w1m0", STIRRED, 19, 1), 1, 0, 17);
        rounds("against, then dragged", after("r2h2f0w1m0", AGAINST, 19, 1), 1, 0, -17);
    }

    private static void mixing() {
        rounds("mixed from the floor up", after("r2h3f0w0m5", STIRRED, 20, 1), 0, 5, 16, 19);
        rounds("mixed likewise against", after("r2h3f0w0m5", AGAINST, 20, 1), 1, -5, -16, -19);
        LeavesInCups x = after("r2h2f5w0m5", STIRRED, 20, 1);
        rounds("mixed behind the drag", x, 0, 5, 15);
        x.ticks(0, 1);
        rounds("35 over 2: 8 of 33 go", x, 0, 10, 27);
        rounds("from the floor to what is above", after("r2h2f9w0m9", TURNED, 40, 1), 0, 20, 16);
    }

    private static void leaves() {
        // Above the floor 10, so the second turning is 1.
        LeavesInCups x = Made.withCup("r4h2f0w0m0");
        x.doing(STIRRED, 10);
        x.leaf(3, 9, 0);
        x.leaf(3, 0, 1);
        x.leaf(0, 0, 0);
        x.leaf(2, 0, 0);
        due.is("inwards by one ring", x.ticks(0, 1), 2);
        due.is("above its stick", x.about(0, 0), 2);
        due.is("not above its stick", x.about(1, 0), 3);
        due.is("no ring further in", x.about(2, 0), 0);
        due.is("the fourth", x.about(3, 0), 1);
        due.is("another ring than ahead of all", x.ticks(NONE, 2), 2);
        due.is("a ring a tick", x.about(0, 0), 0);
        due.is("none goes further", x.ticks(NONE, 100), 0);

        // The floor goes 10, so the second turning is -1.
        LeavesInCups y = Made.withCup("r4h2f9w0m0");
        y.doing(TURNED, 10);
        y.leaf(0, 0, 0);
        y.leaf(0, 0, 1);
        y.leaf(3, 9, 0);
        due.is("-81 by 100 is none", y.ticks(0, 1), 0);
        due.is("outwards by one ring", y.ticks(0, 1), 1);
        due.is("below 0 less its stick", y.about(0, 0), 1);
        due.is("not below 0 less its stick", y.about(1, 0), 0);
        due.is("no ring further out", y.about(2, 0), 3);
        due.is("on to the rim", y.ticks(0, 100), 1);
        due.is("the rim", y.about(0, 0), 3);

        LeavesInCups z = Made.withCup("r6h4f9w0m0");
        z.doing(STIRRED, 10);
        z.leaf(5, 9, 0);
        due.is("a leaf goes through the largest cup", z.ticks(0, 4), 1);
        due.is("four rings", z.about(0, 0), 1);
        due.is("the last one", z.ticks(NONE, 1), 1);
    }

    private static void refusals() {
        LeavesInCups x = new LeavesInCups();
        due.is("no doing, no cup", x.ticks(0, 1), UNKNOWN);
        due.is("a rest, no cup", x.ticks(NONE, 1), STATE);
        due.is("STATE ahead of OUTSIDE", x.ticks(NONE, 0), STATE);
        x.doing(STIRRED, 20);
        due.is("a doing, no cup", x.ticks(0, 1), STATE);
        due.is("still() without a cup", x.still(), STATE);
        Made.cup(x, "r2h2f0w0m0");
        due.is("ticks(0, 0)", x.ticks(0, 0), OUTSIDE);
        due.is("ticks(0, 101)", x.ticks(0, 101), OUTSIDE);
        due.is("ticks(-1, -5)", x.ticks(NONE, -5), OUTSIDE);
        due.is("ticks(1, 1)", x.ticks(1, 1), UNKNOWN);
        due.is("ticks(-2, 1)", x.ticks(-2, 1), UNKNOWN);
        due.is("UNKNOWN ahead of OUTSIDE", x.ticks(1, 0), UNKNOWN);
        due.is("refusals change nothing", x.round(0, 1), 0);
        due.is("100 ticks", x.ticks(0, 100), 0);
        due.is("they were done", x.round(0, 1), 99);
    }

    private static void promise14() {
        LeavesInCups x = after("r3h2f0w0m5", STIRRED, 20, 3);
        x.leaf(2, 0, 0);
        x.want(1, 4);
        x.seen(0, 1);
        x.ticks(0, 1);
        due.isTrue("the floor goes round", x.round(0, 0) > 0);
        due.is("a leaf went", x.about(0, 0), 1);
        due.is("still()", x.still(), 1);
        rounds("still", x, 0, 0, 0);
        rounds("still", x, 2, 0, 0);
        due.is("where it was told", x.about(0, 0), 2);
        due.is("what is wanted stays", x.want(1, 4), 4);
        due.is("what is seen stays", x.about(0, 5), 1);
    }

    private static void promise15() {
        LeavesInCups none = new LeavesInCups();
        due.is("round() without a cup", none.round(0, 0), NO_ROUND);
        LeavesInCups x = Made.withCup("r3h2f0w0m0");
        due.is("round(2, 1)", x.round(2, 1), 0);
        due.is("round(3, 0)", x.round(3, 0), NO_ROUND);
        due.is("round(0, 2)", x.round(0, 2), NO_ROUND);
        due.is("round(-1, 0)", x.round(-1, 0), NO_ROUND);
        due.is("round(0, -1)", x.round(0, -1), NO_ROUND);
    }

    private static void promise16() {
        due.is("second() without a cup", new LeavesInCups().second(0), NO_ROUND);
        LeavesInCups x = after("r2h3f0w0m5", STIRRED, 20, 1);
        // 16 and 19 above 5: 617 by 2 is 308, less 25, by 100.
        due.is("second(0)", x.second(0), 2);
        due.is("second(-1)", x.second(-1), NO_ROUND);
        due.is("second(2)", x.second(2), NO_ROUND);
        // 10 and 15 at the floor at last, 0 above it.
        due.is("below 0", after("r2h2f9w0m0", TURNED, 40, 2).second(0), -16);
        due.is("below 0, towards 0", after("r2h2f9w0m0", TURNED, 15, 9).second(0), -2);
        due.is("99 all round", after("r2h4f0w0m0", AGAINST, 20, 9).second(1), 98);
    }

    private static void promise17() {
        LeavesInCups x = new LeavesInCups();
        due.is("would() without a cup", x.would(0, 1, 0), NO_ROUND);
        Made.cup(x, "r2h3f0w0m5");
        due.is("no doing", x.would(0, 1, 0), NO_ROUND);
        due.is("NONE is no doing", x.would(NONE, 1, 0), NO_ROUND);
        x.doing(STIRRED, 20);
        due.is("no ring", x.would(0, 1, 2), NO_ROUND);
        due.is("no ring", x.would(0, 1, -1), NO_ROUND);
        due.is("0 ticks", x.would(0, 0, 0), NO_TICKS);
        due.is("101 ticks", x.would(0, 101, 0), NO_TICKS);
        due.is("unknown ahead of outside", x.would(1, 0, 0), NO_ROUND);
        due.is("unknown ring ahead of outside", x.would(0, 0, 2), NO_ROUND);
        x.leaf(1, 0, 0);
        due.is("one tick", x.would(0, 1, 1), 2);
        due.is("the water is still", x.round(1, 2), 0);
        due.is("the leaf lies", x.about(0, 0), 1);
        x.ticks(0, 3);
        int round = x.round(1, 1);
        due.is("from still water", x.would(0, 1, 1), 2);
        due.is("the water goes on as it was", x.round(1, 1), round);
        LeavesInCups y = Made.withCup("r2h2f0w0m0");
        y.doing(STIRRED, 1);
        due.is("100 ticks", y.would(0, 100, 0), 98);
        due.is("99 would be 98", y.would(0, 99, 0), 98);
        due.is("70 ticks", y.would(0, 70, 0), 49);
    }

    public static void main(String[] args) {
        stirring();
        dragging();
        mixing();
        leaves();
        refusals();
        promise14();
        promise15();
        promise16();
        promise17();
        due.end();
    }
}
