/** Promises 18 to 29: rows, what leaves do by them, and drag pictures. */
public final class RowsTest {
    private static final int NONE = -1, UNKNOWN = -101, OUTSIDE = -102, STATE = -103, FULL = -104;
    private static final int LEAST = Integer.MIN_VALUE, MOST = Integer.MAX_VALUE;
    private static final int REST = 0, STIRRED = 1, AGAINST = 2, TURNED = 3;
    private static final Due due = new Due();

    /**
     * A cup without wall and mix, whose floor drags nine tenths: stirring goes on for ever, and a cup
     * turned by 10 brings the floor to 10 in two ticks and a rest to 0 in two more. So row 0 sends a
     * leaf without stick to the heap, row 1 sends it a ring outwards, row 2 leaves it.
     */
    private static LeavesInCups threeRows() {
        LeavesInCups x = Made.withCup("r4h2f9w0m0");
        x.doing(STIRRED, 10);
        x.doing(TURNED, 10);
        Made.row(x, "0*1");
        Made.row(x, "1*2");
        Made.row(x, "5*60,7*1");
        return x;
    }

    private static void promise18() {
        LeavesInCups x = threeRows();
        due.is("no leaf", x.ends(0, 0), UNKNOWN);
        x.leaf(2, 9, 0);
        x.leaf(1, 0, 1);
        x.leaf(2, 0, 9);
        due.is("to the heap", x.ends(0, 0), 0);
        due.is("a ring outwards", x.ends(1, 0), 3);
        due.is("by doings that are not", x.ends(2, 0), 2);
        due.is("it sticks", x.ends(0, 1), 1);
        due.is("it sticks", x.ends(1, 2), 2);
        due.is("ends(3, 0)", x.ends(3, 0), UNKNOWN);
        due.is("ends(-1, 0)", x.ends(-1, 0), UNKNOWN);
        due.is("ends(0, 3)", x.ends(0, 3), UNKNOWN);
        due.is("ends(0, -1)", x.ends(0, -1), UNKNOWN);
        due.is("ends(MOST, LEAST)", x.ends(MOST, LEAST), UNKNOWN);

        x.ticks(0, 50);
        due.is("the leaf lies in the heap", x.about(0, 0), 0);
        due.is("from still water, as it was told", x.ends(1, 0), 3);
        due.is("a run changes no leaf", x.about(0, 0), 0);
        due.is("a run changes no water", x.round(0, 1), 99);

        LeavesInCups y = threeRows();
        y.leaf(0, 0, 0);
        Made.row(y, "1*3,4*2,1*3");
        due.is("items one behind the other: out, out, wait, out", y.ends(3, 0), 3);
        Made.row(y, "1*1,4*1,1*2,4*1,4*1,1*2");
        due.is("six items: out by the second tick of the third, and of the sixth", y.ends(4, 0), 2);
        Made.row(y, "0*1,1*60");
        due.is("stirring goes against the turning", y.ends(5, 0), 0);

        LeavesInCups w = threeRows();
        w.leaf(0, 0, 0);
        due.is("doing 7 is not", w.ends(2, 0), 0);
        for (int i = 0; i < 6; i++) {
            w.doing(TURNED, 40);
        }
        due.is("5 and 7 are: out to the rim", w.ends(2, 0), 3);
        Made.row(w, "7*1");
        due.is("doing 7 is", w.ends(3, 0), 1);

        LeavesInCups z = new LeavesInCups();
        Made.row(z, "0*1");
        due.is("a row without a cup", z.ends(0, 0), UNKNOWN);
        Made.cup(z, "r2h2f0w0m0");
        z.leaf(1, 0, 0);
        due.is("a row told ahead of the cup", z.ends(0, 0), 1);
    }

    private static void promise19() {
        LeavesInCups x = threeRows();
        x.leaf(1, 0, 0);
        x.leaf(2, 0, 0);
        due.is("in the heap", x.lies(0, 0), 0);
        due.is("in a ring", x.lies(1, 0), 1);
        due.is("at the rim", x.lies(1, 1), 2);
        due.is("in a ring", x.lies(2, 0), 1);
        due.is("lies(3, 0)", x.lies(3, 0), UNKNOWN);
        due.is("lies(-1, 0)", x.lies(-1, 0), UNKNOWN);
        due.is("lies(0, 2)", x.lies(0, 2), UNKNOWN);
        due.is("lies(0, -1)", x.lies(0, -1), UNKNOWN);
        LeavesInCups y = Made.withCup("r2h2f9w0m0");
        y.leaf(0, 0, 0);
        y.leaf(1, 0, 0);
        Made.row(y, "0*1");
        due.is("two rings: heap", y.lies(0, 0), 0);
        due.is("two rings: rim", y.lies(0, 1), 2);
    }

    private static LeavesInCups oneRow(String cup, int kind, int n, String row) {
        LeavesInCups x = Made.withCup(cup);
        x.doing(kind, n);
        Made.row(x, row);
        return x;
    }

    private static void promise20() {
        LeavesInCups x = threeRows();
        due.is("by all it would", x.line(0, 3, 0), NONE);
        due.is("by none, from ring 1", x.line(0, 1, 1), 0);
        due.is("in the heap it stays", x.line(0, 0, 9), NONE);
        due.is("out of the heap", x.line(1, 0, 0), 0);
        due.is("line(3, 0, 0)", x.line(3, 0, 0), UNKNOWN);
        due.is("line(-1, 0, 0)", x.line(-1, 0, 0), UNKNOWN);
        due.is("line(0, 4, 0)", x.line(0, 4, 0), UNKNOWN);
        due.is("line(0, -1, 0)", x.line(0, -1, 0), UNKNOWN);
        due.is("line(0, 0, -1)", x.line(0, 0, -1), OUTSIDE);
        due.is("line(0, 0, 10)", x.line(0, 0, 10), OUTSIDE);
        due.is("UNKNOWN ahead of OUTSIDE", x.line(0, 4, 10), UNKNOWN);
        LeavesInCups none = new LeavesInCups();
        Made.row(none, "0*1");
        due.is("without a cup", none.line(0, 0, 0), UNKNOWN);

        // These turn over with one REST more or less at the end.
        due.is("not one rest less", oneRow("r4h4f1w0m9", AGAINST, 3, "0*53").line(0, 2, 0), 7);
        due.is("not one rest more", oneRow("r3h4f1w0m8", STIRRED, 19, "0*5").line(0, 1, 0), 6);
        due.is("not one rest more", oneRow("r5h3f1w0m6", AGAINST, 12, "0*29").line(0, 4, 0), 9);
        due.is("not one rest less", oneRow("r3h4f1w0m7", STIRRED, 6, "0*20").line(0, 2, 0), NONE);

        x.leaf(3, 9, 9);
        x.line(0, 2, 0);
        due.is("line() tells no leaf", x.count(2), 1);
        due.is("nor changes one", x.about(0, 1), 3);
    }

    private static void promise21() {
        LeavesInCups x = new LeavesInCups();
        due.is("without a cup", x.want(0, 0), UNKNOWN);
        Made.cup(x, "r3h2f0w0m0");
        due.is("0 at first", x.want(2, 8), 0);
        due.is("what it was", x.want(2, 3), 8);
        due.is("of each ring", x.want(1, 1), 0);
        due.is("want(3, 0)", x.want(3, 0), UNKNOWN);
        due.is("want(-1, 0)", x.want(-1, 0), UNKNOWN);
        due.is("want(2, 9)", x.want(2, 9), OUTSIDE);
        due.is("want(2, -1)", x.want(2, -1), OUTSIDE);
        due.is("UNKNOWN ahead of OUTSIDE", x.want(3, 9), UNKNOWN);
        due.is("refusals change nothing", x.want(2, 0), 3);
    }

    private static void promise22() {
        LeavesInCups none = new LeavesInCups();
        due.is("no row, no cup", none.off(0), UNKNOWN);
        Made.row(none, "0*1");
        due.is("no cup", none.off(0), STATE);
        due.is("no such row", none.off(1), UNKNOWN);
        LeavesInCups x = threeRows();
        due.is("no leaves, none wanted", x.off(0), 0);
        x.leaf(1, 0, 0);
        x.leaf(2, 0, 0);
        x.leaf(3, 0, 9);
        due.is("two in the heap, one at the rim", x.off(0), 3);
        x.want(0, 5);
        due.is("three less, one more", x.off(0), 4);
        x.want(3, 1);
        due.is("three less", x.off(0), 3);
        // Row 1: one in ring 2, two at the rim.
        due.is("five less, one more, one more", x.off(1), 7);
        due.is("off(-1)", x.off(-1), UNKNOWN);
        due.is("off(3)", x.off(3), UNKNOWN);
    }

    private static void promise23() {
        LeavesInCups x = new LeavesInCups();
        due.is("without a cup", x.found(0), STATE);
        due.is("STATE ahead of OUTSIDE", x.found(3), STATE);
        Made.cup(x, "r3h2f9w0m0");
        due.is("no leaves: the least n", x.found(0), 1);
        due.is("no leaves: the least t", x.found(1), 1);
        due.is("no leaves: off", x.found(2), 0);
        x.leaf(2, 0, 0);
        x.leaf(1, 0, 3);
        x.want(0, 2);
        // The second turning has to be 4 at last, so the round 20: by n = 1 in 20 ticks.
        due.is("the least n", x.found(0), 1);
        due.is("then the least t", x.found(1), 20);
        due.is("none off", x.found(2), 0);
        x.still();
        x.leaf(1, 0, 4);
        x.want(0, 3);
        // It has to be 5, so the round 23 at least: by n = 2 in 12 ticks.
        due.is("the least n", x.found(0), 2);
        due.is("then the least t", x.found(1), 12);
        due.is("found(-1)", x.found(-1), OUTSIDE);
        due.is("found(3)", x.found(3), OUTSIDE);
        x.want(2, 4);
        x.want(0, 8);
        due.is("least off", x.found(2), 9);
        due.is("what is refused is not done", x.count(8), 9);
        due.is("the water stays still", x.round(0, 1), 0);
        due.is("a leaf stays", x.about(0, 0), 2);

        x.image();
        x.found(0);
        x.found(1);
        x.restore();
        due.is("it counts on, whatever is restored", x.count(8), 11);
        Made.cup(x, "r2h2f0w0m0");
        due.is("whatever is read", x.count(8), 11);
        due.is("a twelfth", x.found(1), 1);
        due.is("a thirteenth", x.found(1), STATE);
        due.is("OUTSIDE ahead of it", x.found(3), OUTSIDE);
        due.is("twelve", x.count(8), 12);

        LeavesInCups most = Made.withCup("r2h3f2w2m1q");
        most.leaf(1, 2, 6);
        most.want(0, 1);
        due.is("by no less than 20", most.found(0), 20);
        due.is("in no less than 6 ticks", most.found(1), 6);
        due.is("none off", most.found(2), 0);
        LeavesInCups more = Made.withCup("r2h2f0w4m1");
        more.leaf(1, 3, 6);
        more.want(0, 1);
        due.is("21 would do it", more.found(0), 1);
        due.is("but 20 do not", more.found(2), 2);

        // The leaf goes in by the round 10, and on in the 60 rests.
        LeavesInCups y = Made.withCup("r6h2f0w0m0");
        y.leaf(5, 0, 0);
        due.is("none is wanted", y.found(2), 1);
        y.want(5, 1);
        due.is("stirred least", y.found(0), 1);
        due.is("for the shortest", y.found(1), 1);
        due.is("it stays", y.found(2), 0);
        y.want(5, 0);
        y.want(0, 1);
        due.is("10 ticks by 1", y.found(0), 1);
        due.is("10 ticks by 1", y.found(1), 10);
    }

    private static void promise24() {
        LeavesInCups x = Made.withCup("r3h2f0w0m0");
        due.is("no leaf", x.seen(0, 0), UNKNOWN);
        x.leaf(0, 0, 0);
        x.leaf(0, 0, 0);
        due.is("not seen", x.seen(1, 2), NONE);
        due.is("what it was", x.seen(1, 0), 2);
        due.is("seen no more", x.seen(1, NONE), 0);
        due.is("not seen", x.seen(1, NONE), NONE);
        due.is("of each leaf", x.seen(0, NONE), NONE);
        due.is("seen(1, 3)", x.seen(1, 3), UNKNOWN);
        due.is("seen(1, -2)", x.seen(1, -2), UNKNOWN);
        due.is("seen(2, 0)", x.seen(2, 0), UNKNOWN);
        due.is("seen(-1, 0)", x.seen(-1, 0), UNKNOWN);
        due.is("refusals change nothing", x.about(1, 5), NONE);
        due.is("without a cup", new LeavesInCups().seen(0, NONE), UNKNOWN);
    }

    private static void promise25() {
        due.is("without a cup", new LeavesInCups().read(), STATE);
        due.is("without rows", Made.withCup("r2h2f0w0m0").read(), 0);
        LeavesInCups x = threeRows();
        due.is("without leaves", x.read(), 7);
        x.leaf(1, 0, 0);
        x.leaf(0, 0, 1);
        due.is("none is seen", x.read(), 7);
        x.seen(1, 0);
        due.is("by all rows", x.read(), 7);
        x.seen(0, 0);
        due.is("by the first", x.read(), 1);
        x.seen(0, 2);
        due.is("by the second", x.read(), 2);
        x.seen(0, 1);
        due.is("by the third", x.read(), 4);
        x.seen(0, 3);
        due.is("by none", x.read(), 0);
        x.seen(0, 0);
        x.seen(1, 3);
        due.is("all seen ones", x.read(), 0);
        x.seen(0, NONE);
        x.seen(1, NONE);
        due.is("seen no more", x.read(), 7);
        for (int leaf = 2; leaf < 8; leaf++) {
            x.leaf(1, 0, leaf - 2);
            x.seen(leaf, 1);
        }
        due.is("eight leaves, one of them without stick", x.read(), 4);
        x.seen(2, 2);
        due.is("it goes outwards", x.read(), 2);
    }

    private static void promise26() {
        due.is("without a cup", new LeavesInCups().tells(), STATE);
        LeavesInCups noCup = new LeavesInCups();
        Made.row(noCup, "0*1");
        due.is("a row, no cup", noCup.tells(), STATE);
        due.is("without rows", Made.withCup("r2h2f0w0m0").tells(), NONE);
        LeavesInCups x = threeRows();
        due.is("without leaves: the least", x.tells(), 0);
        x.leaf(0, 0, 1);
        x.leaf(1, 0, 0);
        // Row 0: the heap. Row 1: 0 and 2. Row 2: 0 and 1.
        due.is("of like ones the least", x.tells(), 1);
        x.leaf(2, 0, 1);
        // Row 0: 0, 0, 2. Row 1: 0, 2, 2. Row 2: 0, 1, 2.
        due.is("the most different rings", x.tells(), 2);
        x.leaf(3, 0, 1);
        x.leaf(3, 0, 1);
        due.is("different ones alone are counted", x.tells(), 2);

        LeavesInCups y = Made.withCup("r3h2f9w0m0");
        y.doing(STIRRED, 10);
        Made.row(y, "5*1");
        Made.row(y, "0*1");
        y.leaf(1, 0, 0);
        y.leaf(1, 0, 9);
        due.is("the heap counts, too", y.tells(), 1);
        LeavesInCups z = Made.withCup("r3h2f9w0m0");
        z.doing(TURNED, 10);
        Made.row(z, "5*1");
        Made.row(z, "0*2");
        z.leaf(1, 0, 0);
        z.leaf(1, 0, 9);
        due.is("and the rim", z.tells(), 1);
    }

    private static void promise27() {
        LeavesInCups x = threeRows();
        x.leaf(3, 0, 0);
        x.leaf(3, 0, 1);
        x.leaf(1, 0, 0);
        due.is("apart", x.apart(0, 0, 1), 3);
        due.is("the other way round", x.apart(0, 1, 0), 3);
        due.is("both in the heap", x.apart(0, 0, 2), 0);
        due.is("by another row", x.apart(1, 0, 2), 1);
        due.is("from itself", x.apart(2, 1, 1), 0);
        due.is("apart(3, 0, 1)", x.apart(3, 0, 1), UNKNOWN);
        due.is("apart(-1, 0, 1)", x.apart(-1, 0, 1), UNKNOWN);
        due.is("apart(0, 3, 1)", x.apart(0, 3, 1), UNKNOWN);
        due.is("apart(0, -1, 1)", x.apart(0, -1, 1), UNKNOWN);
        due.is("apart(0, 0, 3)", x.apart(0, 0, 3), UNKNOWN);
        due.is("apart(0, 0, -1)", x.apart(0, 0, -1), UNKNOWN);
    }

    private static void promise28() {
        LeavesInCups x = new LeavesInCups();
        int[][] wrong = {{100, 0}, {-100, 0}, {0, 100}, {0, -100}, {MOST, 0}, {0, LEAST}};
        for (int[] w : wrong) {
            due.is("picture(" + w[0] + ", " + w[1] + ")", x.picture(w[0], w[1]), OUTSIDE);
        }
        due.is("none came", x.count(4), 0);
        for (int i = 1; i <= 12; i++) {
            due.is("how many", x.picture(i % 2 == 0 ? 99 : -99, i % 3 == 0 ? 99 : -99), i);
        }
        due.is("a thirteenth", x.picture(0, 0), FULL);
        due.is("OUTSIDE ahead of FULL", x.picture(0, 100), OUTSIDE);
        due.is("twelve", x.count(4), 12);
    }

    private static int dragOf(int... pictures) {
        LeavesInCups x = new LeavesInCups();
        for (int i = 0; i + 1 < pictures.length; i += 2) {
            x.picture(pictures[i], pictures[i + 1]);
        }
        return x.drag();
    }

    private static void promise29() {
        due.is("no pictures", dragOf(), 0);
        due.is("nothing is dragged", dragOf(99, 99), 0);
        for (int floor = 0; floor <= 9; floor++) {
            due.is("floor " + floor, dragOf(50, 50 - 5 * floor, -30, 3 * floor - 30), floor);
        }
        due.is("no more than 9", dragOf(90, 0), 9);
        due.is("turned round", dragOf(90, -90), 9);
        // 7 is left 4 by floor 3 (49 tenths) and by floor 4 (42 tenths).
        due.is("of like ones the least", dragOf(7, 4), 3);
        // Off by 10 and 0, so by 10; the mean way is as far off: the least floor.
        due.is("all sizes together", dragOf(50, 50, 50, 40), 0);
        due.is("two against one", dragOf(50, 50, 50, 40, 50, 40), 2);
        due.is("a 0 tells nothing", dragOf(0, 50, 10, 5), 5);
        due.is("twelve", dragOf(10, 3, 10, 3, 10, 3, 10, 3, 10, 3, 10, 3, 10, 9, 10, 9, 10, 9, 10, 9, 10, 9, 10, 3), 7);
    }

    public static void main(String[] args) {
        promise18();
        promise19();
        promise20();
        promise21();
        promise22();
        promise23();
        promise24();
        promise25();
        promise26();
        promise27();
        promise28();
        promise29();
        due.end();
    }
}
