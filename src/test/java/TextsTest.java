/** Promises 1 to 8: a new object, the page, and the three sorts of text. */
public final class TextsTest {
    private static final int UNKNOWN = -101, OUTSIDE = -102, STATE = -103, FULL = -104;
    private static final Due due = new Due();

    private static LeavesInCups withPage(String text) {
        LeavesInCups x = new LeavesInCups();
        Made.write(x, text);
        return x;
    }

    private static void fault(String text, int sort, int place) {
        due.is("fault(" + sort + ") of " + text, withPage(text).fault(sort), place);
    }

    private static void promise1() {
        LeavesInCups x = new LeavesInCups();
        for (int what = 0; what <= 8; what++) {
            due.is("new: count(" + what + ")", x.count(what), 0);
        }
        due.is("new: cupTold(0)", x.cupTold(0), STATE);
        due.is("new: as(0, 0)", x.as(0, 0), UNKNOWN);
        due.is("new: about(0, 0)", x.about(0, 0), UNKNOWN);
        due.is("new: off(0)", x.off(0), UNKNOWN);
        due.is("new: cuts(1, 1, 1)", x.cuts(1, 1, 1), STATE);
        due.is("new: restore()", x.restore(), STATE);
        long h = 443;
        for (int i = 0; i < 9; i++) {
            h = 31 * h;
        }
        due.is("new: digest()", x.digest(), h);
    }

    private static void promise2() {
        LeavesInCups x = new LeavesInCups();
        due.is("letters of none", x.letters(0), 0);
        due.is("letters of one", x.letters('r'), 1);
        due.is("letters of eight", x.letters(Made.word("12345678")), 9);
        due.is("the least code", x.letters(1), 10);
        due.is("the greatest code", x.letters(126), 11);
        due.is("a code above", x.letters(127), OUTSIDE);
        due.is("a code of 128", x.letters(128), OUTSIDE);
        due.is("a last code above", x.letters(0xff41414141414141L), OUTSIDE);
        due.is("all bytes 255", x.letters(-1), OUTSIDE);
        due.is("a gap", x.letters('r' | (long) '2' << 16), OUTSIDE);
        due.is("a 0 ahead of all", x.letters((long) 'r' << 8), OUTSIDE);
        due.is("a gap ahead of the last", x.letters((long) 'r' << 56), OUTSIDE);
        due.is("refusals change nothing", x.count(6), 11);

        LeavesInCups y = new LeavesInCups();
        for (int i = 1; i <= 6; i++) {
            due.is("letters, so far", y.letters(Made.word("abcdefgh")), 8 * i);
        }
        due.is("51 letters", y.letters(Made.word("abc")), FULL);
        due.is("none of them came", y.count(6), 48);
        due.is("50 letters", y.letters(Made.word("ab")), 50);
        due.is("none more", y.letters(0), 50);
        due.is("one more", y.letters('a'), FULL);
        due.is("OUTSIDE ahead of FULL", y.letters(127), OUTSIDE);

        LeavesInCups z = withPage("r2h2f0");
        Made.write(z, "w0m0");
        due.is("letters come behind the page, in order", z.cup(), 2);
    }

    private static void promise3() {
        LeavesInCups x = withPage("abcdefghi");
        due.is("blank()", x.blank(), 9);
        due.is("blank() of an empty page", x.blank(), 0);
        due.is("the page is empty", x.count(6), 0);
    }

    private static void promise4() {
        fault("", 0, 0);
        fault("r6h4f9w9m9q", 0, 11);
        fault("r2h2f0w0m0", 0, 10);
        fault("r1", 0, 1);
        fault("r7", 0, 1);
        fault("r2h1", 0, 3);
        fault("r2h5", 0, 3);
        fault("R2", 0, 0);
        fault("r2f", 0, 2);
        fault("r2h2f/", 0, 5);
        fault("r2h2f:", 0, 5);
        fault("r2h2f0w0m0Q", 0, 10);
        fault("r2h2f0w0m00", 0, 10);
        fault("r2h2f0w0m0qq", 0, 11);
        fault("r2h2f0w0q", 0, 8);
        fault("r2h2fx", 0, 5);
        fault("r2h2f0wx", 0, 7);
        fault("r2h2f0w0mx", 0, 9);

        fault("0*1", 1, 3);
        fault("7*60", 1, 4);
        fault("8*1", 1, 0);
        fault("*", 1, 0);
        fault("0,1", 1, 1);
        fault("0*0", 1, 2);
        fault("0*01", 1, 2);
        fault("0*61", 1, 3);
        fault("0*59", 1, 4);
        fault("0*70", 1, 3);
        fault("0*100", 1, 4);
        fault("0*,", 1, 2);
        fault("0*1,,", 1, 4);
        fault("0*10,1*20,2*30,3*40,4*50,5*60", 1, 29);
        fault("0*1,0*1,0*1,0*1,0*1,0*1,", 1, 23);
        fault("0*1h", 1, 3);

        fault("0,0,0,0", 2, 7);
        fault("99h,98h,10,0h", 2, 13);
        fault("00", 2, 1);
        fault("05", 2, 1);
        fault("100", 2, 2);
        fault("h", 2, 0);
        fault(",", 2, 0);
        fault("1,,", 2, 2);
        fault("1hh", 2, 2);
        fault("1h2", 2, 2);
        fault("0h,1", 2, 4);
        fault("1,2,3,4,5,6,7,8,9,10", 2, 20);
        fault("1,2,3,4,5,6,7,8,9,10,", 2, 20);
        fault("1,2,3,4,5,6,7,8,9,10h,", 2, 21);
        fault("1;", 2, 1);

        LeavesInCups x = withPage("r2h2f0w0m0");
        due.is("fault(-1)", x.fault(-1), OUTSIDE);
        due.is("fault(3)", x.fault(3), OUTSIDE);
        due.is("another sort", x.fault(1), 0);
        due.is("fault() reads nothing", x.count(7), 0);
        due.is("the page stays", x.count(6), 10);
    }

    private static void promise5() {
        LeavesInCups x = withPage("r2h2f0w0m");
        due.is("a cup half told", x.cup(), STATE);
        due.is("its page stays", x.count(6), 9);
        due.is("no cup came", x.count(7), 0);
        Made.write(x, "0");
        due.is("cup()", x.cup(), 2);
        due.is("the page is empty", x.count(6), 0);
        due.is("cup() of an empty page", x.cup(), STATE);
        due.is("q alone", Made.cup(x, "q"), STATE);
        due.is("the old cup stays", x.count(0), 2);
        x.blank();

        x.doing(1, 20);
        Made.row(x, "0*1");
        Made.river(x, "0,0,0,0");
        x.picture(1, 1);
        x.leaf(1, 0, 9);
        x.want(0, 3);
        x.seen(0, 1);
        x.ticks(0, 1);
        due.is("the water goes round", x.round(0, 1), 20);
        due.is("another cup", Made.cup(x, "r3h2f0w0m0"), 3);
        due.is("the leaves are gone", x.count(2), 0);
        due.is("what was wanted is gone", x.want(0, 0), 0);
        due.is("the water is still", x.round(0, 1), 0);
        due.is("the doing is not gone", x.count(1), 1);
        due.is("the row is not gone", x.count(3), 1);
        due.is("the picture is not gone", x.count(4), 1);
        due.is("the river is not gone", x.count(5), 4);
        x.leaf(1, 0, 9);
        due.is("what was seen is gone", x.about(0, 5), -1);
        due.is("how often a cup was read", x.count(7), 2);
        due.is("a fault in sort 0 leaves the cup", x.fault(0), 0);
        due.is("its rings", x.cupTold(0), 3);

        LeavesInCups y = Made.withCup("r2h2f0w0m0");
        y.doing(1, 20);
        y.leaf(1, 0, 0);
        y.ticks(0, 1);
        due.is("a refused cup", Made.cup(y, "r9"), STATE);
        due.is("the water is not still", y.round(0, 1), 20);
        due.is("the leaf is not gone", y.about(0, 0), 0);
        due.is("a text too long", Made.cup(Made.withCup("r3h2f0w0m0"), "r2h2f0w0m0qq"), STATE);
    }

    private static void promise6() {
        LeavesInCups x = new LeavesInCups();
        due.is("row() of an empty page", x.row(), STATE);
        due.is("an item half told", Made.row(x, "0*"), STATE);
        due.is("its page stays", x.count(6), 2);
        Made.write(x, "1");
        due.is("the first row", x.row(), 0);
        due.is("the page is empty", x.count(6), 0);
        due.is("a comma at the end", Made.row(x, "0*1,"), STATE);
        Made.write(x, "7*60");
        due.is("the second row", x.row(), 1);
        due.is("a cup is no row", Made.row(x, "r2h2f0w0m0"), STATE);
        x.blank();
        for (int i = 2; i <= 5; i++) {
            due.is("one more row", Made.row(x, "1*" + i), i);
        }
        due.is("STATE ahead of FULL", Made.row(x, "1"), STATE);
        LeavesInCups y = new LeavesInCups();
        Made.write(y, "1*2");
        for (int i = 0; i < 9; i++) {
            due.is("looked at for faults", y.fault(1), 3);
        }
        due.is("and then read", y.row(), 0);
        long h = 443;
        for (int number : new int[] {1, 1, 2, 0, 0, 0, 1, 0, 0, 0, 0, 0}) {
            h = 31 * h + number;
        }
        due.is("it has one item", y.digest(), h);
        Made.write(x, "*5");
        due.is("a seventh row", x.row(), FULL);
        due.is("its page stays", x.count(6), 3);
        due.is("six rows", x.count(3), 6);
    }

    private static void promise7() {
        LeavesInCups x = new LeavesInCups();
        due.is("river() of an empty page", x.river(), STATE);
        due.is("three points", Made.river(x, "1,2,3"), STATE);
        due.is("their page stays", x.count(6), 5);
        Made.write(x, ",");
        due.is("a comma at the end", x.river(), STATE);
        Made.write(x, "40");
        due.is("four points", x.river(), 4);
        due.is("the page is empty", x.count(6), 0);
        due.is("its last point", x.point(3, 0, 0, 1), 40);
        due.is("a refused one", Made.river(x, "9,9,9,9,"), STATE);
        due.is("the old one stays", x.point(0, 0, 0, 1), 1);
        x.blank();
        due.is("ten points", Made.river(x, "10,20h,30,40,50,60,70,80,90,0"), 10);
        due.is("the old one is gone", x.point(0, 0, 0, 1), 10);
        due.is("points told", x.count(5), 10);
        x.fault(2);
        due.is("a fault in sort 2 leaves it", x.count(5), 10);
        x.blank();
        Made.river(x, "0,50,0,0");
        Made.river(x, "0,50,0,0");
        due.is("none is held by an older river", x.cuts(1, 0, 1), 1);
        due.is("eleven points", Made.river(x, "1,2,3,4,5,6,7,8,9,10,11"), STATE);
    }

    private static void promise8() {
        LeavesInCups x = new LeavesInCups();
        due.is("without a cup", x.cupTold(9), STATE);
        Made.cup(x, "r5h3f7w1m9");
        int[] told = {5, 3, 7, 1, 9, 0};
        for (int what = 0; what <= 5; what++) {
            due.is("cupTold(" + what + ")", x.cupTold(what), told[what]);
        }
        due.is("cupTold(-1)", x.cupTold(-1), OUTSIDE);
        due.is("cupTold(6)", x.cupTold(6), OUTSIDE);
        Made.cup(x, "r2h4f0w9m3q");
        int[] other = {2, 4, 0, 9, 3, 1};
        for (int what = 0; what <= 5; what++) {
            due.is("square: cupTold(" + what + ")", x.cupTold(what), other[what]);
        }
        Made.cup(x, "r2h4f0w9m3");
        due.is("not square again", x.cupTold(5), 0);
        Made.cup(x, "r3h4f0w9m3");
        due.is("nor in the third", x.cupTold(5), 0);
    }

    public static void main(String[] args) {
        promise1();
        promise2();
        promise3();
        promise4();
        promise5();
        promise6();
        promise7();
        promise8();
        due.end();
    }
}
