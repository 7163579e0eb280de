/** Promises 34 to 37: the image, counts, the digest. */
public final class AllTest {
    private static final int NONE = -1, OUTSIDE = -102, STATE = -103;
    private static final int STIRRED = 1;
    private static final Due due = new Due();

    private static void promise34() {
        due.is("without a cup", new LeavesInCups().image(), STATE);
        LeavesInCups x = Made.withCup("r3h2f0w0m0");
        due.is("no leaves", x.image(), 0);
        x.leaf(0, 0, 0);
        x.leaf(1, 0, 0);
        due.is("two leaves", x.image(), 2);
    }

    private static void promise35() {
        LeavesInCups none = new LeavesInCups();
        due.is("without a cup", none.restore(), STATE);
        LeavesInCups x = Made.withCup("r3h2f0w0m0");
        due.is("none was kept", x.restore(), STATE);
        x.doing(STIRRED, 10);
        x.leaf(2, 0, 0);
        x.want(0, 6);
        x.want(1, 4);
        x.seen(0, 1);
        x.ticks(0, 1);
        x.image();

        x.ticks(0, 4);
        x.want(0, 7);
        x.want(1, 5);
        x.want(2, 8);
        x.seen(0, 2);
        x.leaf(2, 0, 0);
        x.seen(1, 2);
        x.ticks(NONE, 1);
        x.doing(STIRRED, 3);
        Made.row(x, "0*1");
        due.is("all leaves", x.restore(), 2);
        due.is("rounds", x.round(0, 1), 10);
        due.is("where a leaf was", x.about(0, 0), 1);
        due.is("what was wanted", x.want(0, 6), 6);
        due.is("what was wanted", x.want(1, 4), 4);
        due.is("what was not wanted", x.want(2, 0), 0);
        due.is("what was seen", x.about(0, 5), 1);
        due.is("one that came since stays where it is", x.about(1, 0), 1);
        due.is("as it was seen", x.about(1, 5), 2);
        due.is("where it was told", x.about(1, 1), 2);
        due.is("doings go on", x.count(1), 2);
        due.is("rows go on", x.count(3), 1);

        x.still();
        due.is("as often as it is wanted", x.restore(), 2);
        due.is("rounds again", x.round(2, 1), 10);
        x.still();
        x.image();
        x.ticks(0, 1);
        x.restore();
        due.is("the latest", x.round(0, 1), 0);
        due.is("the latest, with both leaves", x.about(1, 0), 2);

        due.is("a cup that fails", Made.cup(x, "r3"), STATE);
        due.is("is none", x.restore(), 2);
        x.blank();
        Made.cup(x, "r3h2f0w0m0");
        due.is("a cup was read since, of the same text", x.restore(), STATE);
        x.image();
        due.is("kept anew", x.restore(), 0);
        Made.river(x, "1,2,3,4");
        due.is("a river is no cup", x.restore(), 0);

        LeavesInCups z = Made.withCup("r6h4f9w0m0");
        z.doing(3, 40);
        z.leaf(5, 0, 9);
        z.want(5, 7);
        z.ticks(0, 1);
        z.image();
        z.want(5, 1);
        z.still();
        z.restore();
        due.is("the floor of the largest cup", z.round(5, 0), 36);
        due.is("its last ring, wanted", z.want(5, 0), 7);

        LeavesInCups w = Made.withCup("r2h2f0w0m0");
        w.doing(STIRRED, 20);
        for (int leaf = 0; leaf < 8; leaf++) {
            w.leaf(1, 0, 0);
            w.seen(leaf, leaf % 2);
        }
        due.is("an image of eight", w.image(), 8);
        due.is("all go in", w.ticks(0, 1), 8);
        for (int leaf = 0; leaf < 8; leaf++) {
            w.seen(leaf, NONE);
        }
        due.is("all eight", w.restore(), 8);
        for (int leaf = 0; leaf < 8; leaf++) {
            due.is("where it was", w.about(leaf, 0), 1);
            due.is("as it was seen", w.about(leaf, 5), leaf % 2);
        }

        LeavesInCups y = Made.withCup("r2h2f0w0m0");
        y.leaf(1, 0, 0);
        y.image();
        y.leaf(0, 9, 9);
        y.leaf(1, 9, 9);
        y.still();
        due.is("those since count", y.restore(), 3);
        due.is("they lie where they are", y.about(2, 0), 1);
    }

    private static void promise36() {
        LeavesInCups x = Made.withCup("r3h2f0w0m0");
        x.doing(1, 1);
        x.doing(1, 1);
        for (int i = 0; i < 4; i++) {
            x.leaf(0, 0, 0);
        }
        for (int i = 0; i < 5; i++) {
            Made.row(x, "0*1");
        }
        for (int i = 0; i < 6; i++) {
            x.picture(0, 0);
        }
        Made.river(x, "1,2,3,4,5,6,7");
        Made.write(x, "12345678");
        x.found(0);
        int[] counts = {3, 2, 4, 5, 6, 7, 8, 1, 1};
        for (int what = 0; what <= 8; what++) {
            due.is("count(" + what + ")", x.count(what), counts[what]);
        }
        due.is("count(-1)", x.count(-1), OUTSIDE);
        due.is("count(9)", x.count(9), OUTSIDE);
        x.blank();
        Made.cup(x, "r2h2f0w0m0");
        int[] then = {2, 2, 0, 5, 6, 7, 0, 2, 1};
        for (int what = 0; what <= 8; what++) {
            due.is("then count(" + what + ")", x.count(what), then[what]);
        }
    }

    private static long digestOf(int... numbers) {
        long h = 443;
        for (int number : numbers) {
            h = 31 * h + number;
        }
        return h;
    }

    private static void promise37() {
        LeavesInCups x = new LeavesInCups();
        due.is("of nothing", x.digest(), digestOf(0, 0, 0, 0, 0, 0, 0, 0, 0));
        Made.row(x, "3*7,0*60");
        due.is("a row without a cup", x.digest(), digestOf(2, 3, 7, 0, 60, 0, 0, 0, 1, 0, 0, 0, 0, 0));
        x.doing(STIRRED, 20);
        x.doing(3, 40);
        x.picture(-9, 8);
        Made.river(x, "5,6h,70,0");
        Made.write(x, "r~");
        due.is("without a cup", x.digest(),
            digestOf(1, 20, 3, 40, 2, 3, 7, 0, 60, -9, 8, 5, 0, 6, 1, 70, 0, 0, 0, 114, 126, 0, 2, 0, 1, 1, 4, 2, 0, 0));
        x.blank();
        Made.cup(x, "r2h3f0w0m5q");
        Made.row(x, "0*1");
        x.leaf(1, 3, 2);
        x.leaf(1, 0, 1);
        x.want(1, 8);
        x.seen(1, 0);
        x.ticks(0, 1);
        x.found(1);
        // Row 0: in the end the floor goes 96 below 99, 99, so that weight 3 takes 27 from 5: leaf 0 goes out again.
        due.is("of all", x.digest(), digestOf(
            2, 3, 0, 0, 5, 1,
            5, 16, 19, 5, 16, 19, 2, 2, 0, 8,
            1, 20, 3, 40,
            1, 1, 3, 2, 2, NONE, 0, 1, 0, 1, 2, 0,
            2, 3, 7, 0, 60, 1, 0, 1, 0, 1, 1, 0,
            -9, 8, 5, 0, 6, 1, 70, 0, 0, 0,
            2, 2, 2, 2, 1, 4, 0, 1, 1));
        due.is("asked twice", x.digest(), x.digest());
        Made.row(x, "7*1");
        due.is("the last row alone leaves both", x.ends(2, 1) * 10 + x.ends(1, 1), 10);
        x.blank();
        LeavesInCups y = Made.withCup("r4h2f9w0m0");
        y.doing(STIRRED, 10);
        y.doing(3, 10);
        y.leaf(2, 0, 0);
        Made.row(y, "0*1");
        Made.row(y, "1*2");
        y.lies(0, 0);
        due.is("where leaves end by each row", y.digest(), digestOf(
            4, 2, 9, 0, 0, 0, 0, 0, 0, 0, 0, 0, 0, 0, 0, 0, 0, 0, 0, 0, 0, 0,
            1, 10, 3, 10, 2, 2, 0, 0, 0, NONE,
            1, 0, 1, 0, 1, 1, 2, 3,
            4, 2, 1, 2, 0, 0, 0, 1, 0));
        due.is("it changes no leaf", x.about(0, 0), 1);
        due.is("it changes no water", x.round(1, 2), 19);
    }

    public static void main(String[] args) {
        promise34();
        promise35();
        promise36();
        promise37();
        due.end();
    }
}
