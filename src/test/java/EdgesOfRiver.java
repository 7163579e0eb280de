/** What the document says of the river, promises 30 to 33. */
final class EdgesOfRiver {
    private static final int NONE = Edges.NONE, UNKNOWN = Edges.UNKNOWN, OUTSIDE = Edges.OUTSIDE, STATE = Edges.STATE;

    private final Said said;

    EdgesOfRiver(Said said) {
        this.said = said;
    }

    void all() {
        bendInTerms();
        cutInTerms();
        firstAndSavesInTerms();
        stateInTerms();
        point();
        cuts();
        firstCut();
        saves();
    }

    /** Points of a river behind so many years. */
    private void flows(String river, int years, int eat, int neck, int... wanted) {
        LeavesInCups x = Made.withRiver(river);
        for (int i = 0; i < wanted.length; i++) {
            said.is(river + ": point(" + i + ", " + years + ", " + eat + ", " + neck + ")",
                x.point(i, years, eat, neck), wanted[i]);
        }
    }

    private void bendInTerms() {
        said.in("Terms");
        said.says("A YEAR by EAT (0 to 9) and NECK (1 to 99):");
        for (int eat = 0; eat <= 9; eat++) {
            flows("0,10,0,0", 1, eat, 99, 0, 10 + eat, 0, 0);
        }
        for (int neck : new int[] {1, 2, 98, 99}) {
            flows("0," + neck + ",0,0", 1, 0, neck, 0, neck, 0, 0);
        }
        flows("0,2,0,0", 1, 0, 1, 0, 0, 0, 0);
        flows("0,99,0,0", 1, 0, 98, 0, 0, 0, 0);
        said.says("of each POINT but the first, the last and those HELD");
        flows("90,0,0,0,90", 1, 9, 99, 90, 0, 0, 0, 90);
        flows("0,90,0,90", 1, 9, 99, 0, 99, 0, 90);
        flows("40,30,30,30,40", 1, 9, 99, 40, 26, 30, 26, 40);
        flows("0,10h,0,0", 1, 9, 99, 0, 10, 0, 0);
        flows("0h,10,0,10,0h", 1, 9, 99, 0, 19, 0, 19, 0);
        said.says("BEND is twice its OFF-SIDE less that of both beside it (as the YEAR begins);");
        // Bends 20, -10, 0, by what they are as the year begins; behind the first of them the second's would be -19.
        flows("30,40,30,30,30", 1, 9, 99, 30, 49, 26, 30, 30);
        flows("30,30,30,40,30", 1, 9, 99, 30, 30, 26, 49, 30);
        flows("1,2,3,4,5,6,7,8,9,10", 50, 9, 1, 1, 2, 3, 4, 5, 6, 7, 8, 9, 10);
        said.says("it goes aside by BEND times EAT, by 20");
        flows("0,10,0,0", 1, 1, 99, 0, 11, 0, 0);
        flows("0,9,0,0", 1, 1, 99, 0, 9, 0, 0);
        flows("0,9,0,0", 1, 9, 99, 0, 17, 0, 0);
        flows("60,50,60h,60", 1, 1, 99, 60, 49, 60, 60);
        flows("60,51,60h,60", 1, 1, 99, 60, 51, 60, 60);
        flows("60,51,60h,60", 1, 9, 99, 60, 43, 60, 60);
        said.says("(it stays 0 to 99);");
        flows("79,90,79h,79", 1, 9, 99, 79, 99, 79, 79);
        flows("78,90,78h,78", 1, 9, 99, 78, 99, 78, 78);
        flows("0,99,0,0", 1, 9, 99, 0, 99, 0, 0);
        flows("19,9,19h,19", 1, 9, 99, 19, 0, 19, 19);
        flows("20,9,20h,20", 1, 9, 99, 20, 0, 20, 20);
        flows("21,9,21h,21", 1, 9, 99, 21, 0, 21, 21);
        flows("99,0,99,99", 9, 9, 99, 99, 0, 99, 99);
    }

    private void cutInTerms() {
        said.says("then, from the first one on:");
        // The second is cut off; then the third is no more than the neck off both.
        flows("0,60,0,60,60,60", 1, 0, 9, 0, 0, 0, 60, 60, 60);
        flows("60,60,60,0,60,0", 1, 0, 9, 60, 60, 60, 60, 60, 0);
        flows("0,10,0,0", 1, 9, 18, 0, 0, 0, 0);
        flows("0,10,0,0", 1, 9, 19, 0, 19, 0, 0);
        said.says("if it is more than NECK off both beside it,");
        flows("0,50,0,0", 1, 0, 50, 0, 50, 0, 0);
        flows("0,51,0,0", 1, 0, 50, 0, 0, 0, 0);
        flows("1,51,0,0", 1, 0, 50, 1, 51, 0, 0);
        flows("0,51,1,1", 1, 0, 50, 0, 51, 1, 1);
        flows("99,49,99,99", 1, 0, 50, 99, 49, 99, 99);
        flows("99,48,99,99", 1, 0, 50, 99, 99, 99, 99);
        flows("98,48,99,99", 1, 0, 50, 98, 48, 99, 99);
        flows("99,48,98,98", 1, 0, 50, 99, 48, 98, 98);
        said.says("on the same side, it is CUT OFF:");
        flows("0,50,99,99", 1, 0, 10, 0, 50, 99, 99);
        flows("99,50,0,0", 1, 0, 10, 99, 50, 0, 0);
        said.says("it becomes half of both together.");
        flows("0,50,4,9", 1, 0, 45, 0, 2, 4, 9);
        flows("0,50,3,9", 1, 0, 45, 0, 1, 3, 9);
        flows("70,4,61,60", 1, 0, 55, 70, 65, 61, 60);
        flows("99,0,99,99", 1, 0, 98, 99, 99, 99, 99);
        said.says("(HELD ones are never CUT OFF.)");
        flows("0,99h,0,0", 99, 9, 1, 0, 99, 0, 0);
        said.is("none", Made.withRiver("0,99h,0h,99h,0").cuts(99, 9, 1), 0);
        said.is("the one between", Made.withRiver("0,99h,0,99h,0").cuts(1, 0, 1), 1);
    }

    private void firstAndSavesInTerms() {
        said.says("FIRST CUT: in which YEAR (0 to 99) something is CUT OFF first.");
        said.is("in the first", Made.withRiver("0,50,0,0").firstCut(0, 49), 0);
        // 10, then 11, 12, 13, 14 behind year 3.
        said.is("in year 3", Made.withRiver("0,10,0,0").firstCut(1, 13), 3);
        said.is("in year 4", Made.withRiver("0,10,0,0").firstCut(1, 14), 4);
        // Found by a search for late ones.
        said.is("in year 90", Made.withRiver("99,51,36,46,51,36,0,49h,3,12h").firstCut(1, 98), 90);
        said.is("in none", Made.withRiver("0,9,0,0").firstCut(1, 9), NONE);
        said.says("SAVES: the POINT (neither first, last, nor HELD) by which, if it was HELD, too,"
            + " over so many YEARS fewest are CUT OFF;");
        said.is("the one that is cut off", Made.withRiver("0,0,50,0,0").saves(1, 0, 49), 2);
        said.is("the last but one", Made.withRiver("0,0,0,50,0").saves(1, 0, 49), 3);
        said.is("the one that is not held", Made.withRiver("0h,0h,0,0h,9").saves(9, 9, 1), 2);
        said.is("it goes ahead of small bends", Made.withRiver("0,0,99,0,0").saves(1, 0, 10), 2);
        said.says("of like ones of least sizes of BEND together in the end (of all POINTS but the first, the last),");
        // None is cut off; the bends in the end are -19, 38, -19, or with 2 held -10, 20, -10.
        said.is("the one that grows", Made.withRiver("0,0,10,0,0").saves(1, 9, 99), 2);
        // With 1 held, 40 49 20 and bends 11, 38, -39; with 2 held, 49 40 20 and 38, 11, -30.
        said.is("bends of held ones count", Made.withRiver("20h,40,40,20h,30").saves(1, 9, 99), 2);
        // With 2 held, 40 40 31 and bends 30, 9, 12; with 3 held, 40 41 30 and 29, 12, 9.
        said.is("51 and 50", Made.withRiver("10h,40h,40,30,10").saves(1, 3, 99), 3);
        said.says("of like ones the least.");
        said.is("all alike", Made.withRiver("0,0,0,0,0,0,0,0,0,0").saves(99, 9, 1), 1);
        said.is("the least that is not held", Made.withRiver("0,0h,0h,0,0,0").saves(99, 9, 1), 3);
        // Either way one is cut off, and bends are 50, 100, 50.
        said.is("two alike", Made.withRiver("0,0,50,0,50,0,0").saves(1, 0, 49), 2);
    }

    private void stateInTerms() {
        said.says("(STATE: there is none; OUTSIDE: eat, neck, years (0 to 99) and so on).");
        LeavesInCups none = new LeavesInCups();
        said.is("cuts", none.cuts(0, 0, 1), STATE);
        said.is("firstCut", none.firstCut(0, 1), STATE);
        said.is("saves", none.saves(0, 0, 1), STATE);
        said.is("a cup is no river", Made.withCup("r2h2f0w0m0").cuts(0, 0, 1), STATE);
        LeavesInCups x = Made.withRiver("5,5,5,5");
        for (int years = -2; years <= 102; years++) {
            boolean right = years >= 0 && years <= 99;
            said.is("point in " + years, x.point(0, years, 9, 1), right ? 5 : OUTSIDE);
            said.is("cuts in " + years, x.cuts(years, 9, 1), right ? 0 : OUTSIDE);
            said.is("saves in " + years, x.saves(years, 9, 1), right ? 1 : OUTSIDE);
        }
        for (int eat = -2; eat <= 12; eat++) {
            asked(x, eat, 1, eat >= 0 && eat <= 9);
        }
        for (int neck = -2; neck <= 102; neck++) {
            asked(x, 9, neck, neck >= 1 && neck <= 99);
        }
    }

    private void asked(LeavesInCups x, int eat, int neck, boolean right) {
        String by = " by " + eat + " and " + neck;
        said.is("point" + by, x.point(3, 9, eat, neck), right ? 5 : OUTSIDE);
        said.is("cuts" + by, x.cuts(9, eat, neck), right ? 0 : OUTSIDE);
        said.is("firstCut" + by, x.firstCut(eat, neck), right ? NONE : OUTSIDE);
        said.is("saves" + by, x.saves(9, eat, neck), right ? 1 : OUTSIDE);
    }

    private void point() {
        said.in("Promise 30");
        said.says("The OFF-SIDE of a POINT behind so many YEARS.");
        flows("9,8h,7,60,5,4,3,2,1,0", 0, 9, 1, 9, 8, 7, 60, 5, 4, 3, 2, 1, 0);
        // Year by year from year 2: 30 40, 30 38, 30 35, 31 30, 21 23, 21 40, then 30 40 again.
        int[][] turns = {{30, 40}, {30, 38}, {30, 35}, {31, 30}, {21, 23}, {21, 40}};
        flows("20,20,20,60", 1, 5, 1, 20, 20, 40, 60);
        for (int years = 2; years <= 99; years++) {
            int[] turn = turns[(years - 2) % 6];
            flows("20,20,20,60", years, 5, 1, 20, turn[0], turn[1], 60);
        }
        LeavesInCups x = Made.withRiver("20,20,20,60");
        x.point(1, 99, 5, 1);
        said.is("years are but looked at", x.point(1, 0, 5, 1), 20);
        said.says("UNKNOWN: point;");
        for (int point : Edges.beyond(0, 3)) {
            Edges.refused(said, "point(" + point + ", 0, 0, 1)", x, z -> z.point(point, 0, 0, 1), UNKNOWN);
            Edges.refused(said, "ahead of OUTSIDE: years", x, z -> z.point(point, 100, 0, 1), UNKNOWN);
            Edges.refused(said, "ahead of OUTSIDE: eat", x, z -> z.point(point, 0, 10, 1), UNKNOWN);
            Edges.refused(said, "ahead of OUTSIDE: neck", x, z -> z.point(point, 0, 0, 0), UNKNOWN);
            said.is("without a river", new LeavesInCups().point(point, 0, 0, 1), UNKNOWN);
        }
        said.is("of ten: point 10", Made.withRiver("0,1,2,3,4,5,6,7,8,9").point(10, 0, 0, 1), UNKNOWN);
        said.is("without a river: point 0", new LeavesInCups().point(0, 0, 0, 1), UNKNOWN);
        said.says("OUTSIDE.");
        for (int[] f : outsideFlows()) {
            Edges.refused(said, "point(3, " + f[0] + ", " + f[1] + ", " + f[2] + ")", x,
                z -> z.point(3, f[0], f[1], f[2]), OUTSIDE);
        }
    }

    /** Years, eat and neck, of which one at least is not as told. */
    private static int[][] outsideFlows() {
        int[][] flows = new int[19][];
        int at = 0;
        for (int years : Edges.beyond(0, 99)) {
            flows[at++] = new int[] {years, 0, 1};
        }
        for (int eat : Edges.beyond(0, 9)) {
            flows[at++] = new int[] {0, eat, 1};
        }
        for (int neck : Edges.beyond(1, 99)) {
            flows[at++] = new int[] {0, 0, neck};
        }
        flows[at] = new int[] {100, 10, 100};
        return flows;
    }

    private void cuts() {
        said.in("Promise 31");
        said.says("How many were CUT OFF in so many YEARS.");
        LeavesInCups x = Made.withRiver("20,31,30,60");
        // One in each of years 0 to 2, none in 3 to 5, and so on.
        int due = 0;
        for (int years = 0; years <= 99; years++) {
            said.is("in " + years, x.cuts(years, 5, 1), due);
            due += years % 6 < 3 ? 1 : 0;
        }
        said.is("two in a year", Made.withRiver("0,50,0,50,0").cuts(1, 0, 20), 2);
        said.is("four in a year", Made.withRiver("0,50,0,50,0,50,0,50,0,0").cuts(1, 0, 20), 4);
        said.is("asked twice", x.cuts(99, 5, 1), 51);
        said.says("STATE;");
        LeavesInCups none = Made.withCup("r2h2f0w0m0");
        Edges.refused(said, "without a river", none, z -> z.cuts(0, 0, 1), STATE);
        said.says("OUTSIDE.");
        for (int[] f : outsideFlows()) {
            String call = "cuts(" + f[0] + ", " + f[1] + ", " + f[2] + ")";
            Edges.refused(said, call, x, z -> z.cuts(f[0], f[1], f[2]), OUTSIDE);
            Edges.refused(said, "STATE ahead of it: " + call, none, z -> z.cuts(f[0], f[1], f[2]), STATE);
        }
    }

    private void firstCut() {
        said.in("Promise 32");
        said.says("FIRST CUT;");
        LeavesInCups x = Made.withRiver("20,20,20,60");
        said.is("year 0", x.firstCut(5, 1), 0);
        said.is("asked twice", x.firstCut(5, 1), 0);
        x.cuts(50, 5, 1);
        said.is("behind other years", x.firstCut(5, 1), 0);
        // Years 3 to 5 of a turn cut nothing off.
        said.is("year 3", Made.withRiver("20,30,40,60").firstCut(5, 1), 3);
        said.is("year 2", Made.withRiver("20,30,38,60").firstCut(5, 1), 2);
        said.is("year 1", Made.withRiver("20,30,35,60").firstCut(5, 1), 1);
        said.says("NONE: in none of 0 to 99.");
        said.is("nothing bends", Made.withRiver("1,2,3,4").firstCut(9, 1), NONE);
        said.is("all are held", Made.withRiver("0,99h,0h,99").firstCut(9, 1), NONE);
        said.is("nothing is off by more than 99", Made.withRiver("0,99,0,99").firstCut(9, 99), NONE);
        said.says("STATE;");
        LeavesInCups none = Made.withCup("r2h2f0w0m0");
        Edges.refused(said, "without a river", none, z -> z.firstCut(0, 1), STATE);
        said.says("OUTSIDE.");
        for (int[] f : outsideFlows()) {
            if (f[0] == 0) {
                String call = "firstCut(" + f[1] + ", " + f[2] + ")";
                Edges.refused(said, call, x, z -> z.firstCut(f[1], f[2]), OUTSIDE);
                Edges.refused(said, "STATE ahead of it: " + call, none, z -> z.firstCut(f[1], f[2]), STATE);
            }
        }
    }

    private void saves() {
        said.in("Promise 33");
        said.says("SAVES;");
        LeavesInCups x = Made.withRiver("0,0,50,0,0");
        said.is("the one that is cut off", x.saves(1, 0, 49), 2);
        said.is("none is held by it", x.cuts(1, 0, 49), 1);
        said.is("over no years: the bends as told, all alike", x.saves(0, 0, 49), 1);
        said.is("over 99 years", x.saves(99, 0, 49), 2);
        said.says("NONE: there is no such POINT.");
        said.is("four, two held", Made.withRiver("0,0h,0h,0").saves(9, 9, 9), NONE);
        said.is("ten, all held", Made.withRiver("0h,1h,2h,3h,4h,5h,6h,7h,8h,9h").saves(99, 9, 1), NONE);
        said.is("the first and the last are none", Made.withRiver("0,50h,0h,50").saves(0, 0, 1), NONE);
        said.is("one is enough", Made.withRiver("0,50h,0,50").saves(0, 0, 1), 2);
        said.says("STATE;");
        LeavesInCups none = Made.withCup("r2h2f0w0m0");
        Edges.refused(said, "without a river", none, z -> z.saves(0, 0, 1), STATE);
        said.says("OUTSIDE.");
        LeavesInCups held = Made.withRiver("0,0h,0h,0");
        for (int[] f : outsideFlows()) {
            String call = "saves(" + f[0] + ", " + f[1] + ", " + f[2] + ")";
            Edges.refused(said, call, x, z -> z.saves(f[0], f[1], f[2]), OUTSIDE);
            Edges.refused(said, "ahead of NONE: " + call, held, z -> z.saves(f[0], f[1], f[2]), OUTSIDE);
            Edges.refused(said, "STATE ahead of it: " + call, none, z -> z.saves(f[0], f[1], f[2]), STATE);
        }
    }
}
