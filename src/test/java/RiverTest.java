/** Promises 30 to 33: the river. */
public final class RiverTest {
    private static final int NONE = -1, UNKNOWN = -101, OUTSIDE = -102, STATE = -103;
    private static final Due due = new Due();

    /** Points of a river behind so many years. */
    private static void points(String river, int years, int eat, int neck, int... wanted) {
        LeavesInCups x = Made.withRiver(river);
        due.is("points of " + river, x.count(5), wanted.length);
        for (int i = 0; i < wanted.length; i++) {
            due.is(river + ": point(" + i + ", " + years + ", " + eat + ", " + neck + ")",
                x.point(i, years, eat, neck), wanted[i]);
        }
    }

    private static void cuts(String river, int years, int eat, int neck, int wanted) {
        due.is(river + ": cuts(" + years + ", " + eat + ", " + neck + ")",
            Made.withRiver(river).cuts(years, eat, neck), wanted);
    }

    private static void firstCut(String river, int eat, int neck, int wanted) {
        due.is(river + ": firstCut(" + eat + ", " + neck + ")", Made.withRiver(river).firstCut(eat, neck), wanted);
    }

    private static void saves(String river, int years, int eat, int neck, int wanted) {
        due.is(river + ": saves(" + years + ", " + eat + ", " + neck + ")",
            Made.withRiver(river).saves(years, eat, neck), wanted);
    }

    private static void bends() {
        points("0,10,0,0", 0, 9, 99, 0, 10, 0, 0);
        points("0,10,0,0", 1, 9, 99, 0, 19, 0, 0);
        points("0,10,0,0", 1, 1, 99, 0, 11, 0, 0);
        points("0,10,0,0", 9, 0, 99, 0, 10, 0, 0);
        points("0,99,0,0", 1, 9, 99, 0, 99, 0, 0);
        points("99,0,99,99", 1, 9, 99, 99, 0, 99, 99);
        // Bends 5, -10, 5: by 3 twentieths 0 and -1.
        points("20,20,15,20,20", 1, 3, 99, 20, 20, 14, 20, 20);
        // Bends 20, -10, 0, as the year begins.
        points("30,40,30,30,30", 1, 9, 99, 30, 49, 26, 30, 30);
        points("30,40h,30,30,30", 1, 9, 99, 30, 40, 26, 30, 30);
        points("30,40,30h,30,30", 1, 9, 99, 30, 49, 30, 30, 30);
        // Then bends 42, -27, 4.
        points("30,40,30,30,30", 2, 9, 99, 30, 67, 14, 31, 30);
        points("1,2,3,4,5,6,7,8,9,10", 99, 9, 1, 1, 2, 3, 4, 5, 6, 7, 8, 9, 10);
    }

    private static void cutOff() {
        points("0,50,0,0", 1, 0, 50, 0, 50, 0, 0);
        points("0,50,0,0", 1, 0, 49, 0, 0, 0, 0);
        points("60,5,60,60", 1, 0, 55, 60, 5, 60, 60);
        points("60,5,60,60", 1, 0, 54, 60, 60, 60, 60);
        points("60,5,70,70", 1, 0, 55, 60, 5, 70, 70);
        points("70,5,60,60", 1, 0, 55, 70, 5, 60, 60);
        points("70,4,60,60", 1, 0, 55, 70, 65, 60, 60);
        points("0,50,4,9", 1, 0, 45, 0, 2, 4, 9);
        points("0,50,5,9", 1, 0, 45, 0, 50, 5, 9);
        points("5,50,0,0", 1, 0, 45, 5, 50, 0, 0);
        points("0,50,99,0", 1, 0, 10, 0, 50, 25, 0);
        points("0,50,99,99", 1, 0, 10, 0, 50, 99, 99);
        points("0,50,1,1", 1, 0, 10, 0, 0, 1, 1);
        points("0,50h,0,0", 9, 9, 1, 0, 50, 0, 0);
        points("90,0,90,90h,0", 9, 0, 1, 90, 90, 90, 90, 0);
        points("0,60,0,60,60,60", 1, 0, 9, 0, 0, 0, 60, 60, 60);
        // It goes aside first, and is cut off by what it is then.
        points("0,10,0,0", 1, 9, 18, 0, 0, 0, 0);
        points("0,10,0,0", 1, 9, 19, 0, 19, 0, 0);
    }

    private static void promise30() {
        bends();
        cutOff();
        LeavesInCups none = new LeavesInCups();
        due.is("without a river", none.point(0, 0, 0, 1), UNKNOWN);
        LeavesInCups x = Made.withRiver("1,2,3,4,5");
        due.is("point 4", x.point(4, 99, 9, 99), 5);
        due.is("point 5", x.point(5, 0, 0, 1), UNKNOWN);
        due.is("point -1", x.point(-1, 0, 0, 1), UNKNOWN);
        due.is("UNKNOWN ahead of OUTSIDE", x.point(5, 100, 0, 1), UNKNOWN);
        int[][] outside = {{-1, 0, 1}, {100, 0, 1}, {0, -1, 1}, {0, 10, 1}, {0, 0, 0}, {0, 0, 100}, {0, 0, -1}};
        for (int[] o : outside) {
            String of = "(" + o[0] + ", " + o[1] + ", " + o[2] + ")";
            due.is("point" + of, x.point(1, o[0], o[1], o[2]), OUTSIDE);
            due.is("cuts" + of, x.cuts(o[0], o[1], o[2]), OUTSIDE);
            due.is("saves" + of, x.saves(o[0], o[1], o[2]), OUTSIDE);
            due.is("without a river: cuts" + of, none.cuts(o[0], o[1], o[2]), STATE);
            due.is("without a river: saves" + of, none.saves(o[0], o[1], o[2]), STATE);
            if (o[0] == 0) {
                due.is("firstCut" + of, x.firstCut(o[1], o[2]), OUTSIDE);
                due.is("without a river: firstCut" + of, none.firstCut(o[1], o[2]), STATE);
            }
        }
        LeavesInCups y = Made.withRiver("0,10,0,0");
        y.point(1, 50, 9, 99);
        due.is("years are but looked at", y.point(1, 1, 9, 99), 19);
    }

    private static void promise31() {
        cuts("0,50,0,0", 0, 0, 1, 0);
        cuts("0,50,0,0", 1, 0, 49, 1);
        cuts("0,50,0,0", 99, 0, 49, 1);
        cuts("0,50,0,0", 99, 0, 50, 0);
        cuts("0,50,0,50,0", 1, 0, 20, 2);
        cuts("0,50,0,50h,0", 1, 0, 20, 1);
        cuts("0,50h,0,50h,0", 99, 9, 20, 1);
        cuts("0,50h,0h,50h,0", 99, 9, 20, 0);
        // 10, 11, 12, 13, 14: cut off in the fourth year.
        cuts("0,10,0,0", 3, 1, 13, 0);
        cuts("0,10,0,0", 4, 1, 13, 1);
        due.is("without a river", new LeavesInCups().cuts(0, 0, 1), STATE);
    }

    private static void promise32() {
        firstCut("0,50,0,0", 0, 49, 0);
        firstCut("0,50,0,0", 0, 50, NONE);
        firstCut("0,10,0,0", 1, 13, 3);
        firstCut("0,10,0,0", 1, 10, 0);
        firstCut("0,9,0,0", 1, 9, NONE);
        firstCut("0,50h,0,0", 9, 1, NONE);
        firstCut("99,51,36,46,51,36,0,49h,3,12h", 1, 98, 90);
        due.is("without a river", new LeavesInCups().firstCut(0, 1), STATE);
    }

    private static void promise33() {
        saves("0,0,0,0", 9, 9, 9, 1);
        saves("0,0h,0,0", 9, 9, 9, 2);
        saves("0,0h,0h,0", 9, 9, 9, NONE);
        saves("0h,0h,0h,0h", 0, 0, 1, NONE);
        saves("0h,0h,0,0h,9", 0, 0, 1, 2);
        // The second alone is cut off.
        saves("0,0,50,0,0", 1, 0, 49, 2);
        // Two are cut off, or one if one of them is held: 0 0 50 0 0 0 0 either way, bends 50 100 50.
        saves("0,0,50,0,50,0,0", 1, 0, 49, 2);
        // None is cut off; the bends in the end are -19, 38, -19, or with 2 held -10, 20, -10.
        saves("0,0,10,0,0", 1, 9, 99, 2);
        // Fewer cuts go ahead of smaller bends: held, the second keeps its bend.
        saves("0,0,99,0,0", 1, 0, 10, 2);
        // With 1 held, 40 49 20 and bends 11, 38, -39; with 2 held, 49 40 20 and 38, 11, -30 (3 is held, but counts).
        saves("20h,40,40,20h,30", 1, 9, 99, 2);
        // With 2 held, 40 40 31 and bends 30, 9, 12; with 3 held, 40 41 30 and 29, 12, 9.
        saves("10h,40h,40,30,10", 1, 3, 99, 3);
        saves("0,0,0,0,0,0,0,0,0,0", 1, 9, 99, 1);
        due.is("without a river", new LeavesInCups().saves(0, 0, 1), STATE);
        LeavesInCups x = Made.withRiver("0,0,50,0,0");
        x.saves(1, 0, 49);
        due.is("none is held by it", x.cuts(1, 0, 49), 1);
    }

    public static void main(String[] args) {
        promise30();
        promise31();
        promise32();
        promise33();
        due.end();
    }
}
