/** What the document says of the page and of the three sorts of text, promises 1 to 8. */
final class EdgesOfTexts {
    private static final int UNKNOWN = Edges.UNKNOWN, OUTSIDE = Edges.OUTSIDE, STATE = Edges.STATE, FULL = Edges.FULL;
    private static final int CUP = 0, ROW = 1, RIVER = 2;
    private static final String DIGITS = "0123456789";

    private final Said said;

    EdgesOfTexts(Said said) {
        this.said = said;
    }

    void all() {
        cupText();
        rowText();
        riverText();
        newObject();
        letters();
        lettersRefused();
        blank();
        fault();
        cup();
        cupIsGone();
        row();
        river();
        cupTold();
    }

    /** Of all letters that there are, just these may stand behind the start of a text. */
    private void goesOn(int sort, String start, String allowed) {
        for (char letter = 1; letter <= 126; letter++) {
            int due = start.length() + (allowed.indexOf(letter) >= 0 ? 1 : 0);
            said.is("fault(" + sort + ") of " + start + " and letter " + (int) letter,
                Edges.page(start + letter).fault(sort), due);
        }
    }

    private static int read(LeavesInCups x, int sort) {
        return sort == CUP ? x.cup() : sort == ROW ? x.row() : x.river();
    }

    private void reads(int sort, String text, int want) {
        said.is("read as sort " + sort + ": " + text, read(Edges.page(text), sort), want);
    }

    private void cupText() {
        said.in("Terms");
        said.says("THE CUP is a text: \"r\" and RINGS (2 to 6),");
        goesOn(CUP, "", "r");
        goesOn(CUP, "r", "23456");
        for (int rings = 2; rings <= 6; rings++) {
            reads(CUP, "r" + rings + "h2f0w0m0", rings);
        }
        reads(CUP, "r1h2f0w0m0", STATE);
        reads(CUP, "r7h2f0w0m0", STATE);
        said.says("\"h\" and HEIGHTS (2 to 4),");
        goesOn(CUP, "r2", "h");
        goesOn(CUP, "r6h", "234");
        for (int heights = 2; heights <= 4; heights++) {
            said.is("heights", Made.withCup("r2h" + heights + "f0w0m0").cupTold(1), heights);
        }
        reads(CUP, "r2h1f0w0m0", STATE);
        reads(CUP, "r2h5f0w0m0", STATE);
        said.says("\"f\" and FLOOR (0 to 9),");
        goesOn(CUP, "r2h4", "f");
        goesOn(CUP, "r2h4f", DIGITS);
        said.says("\"w\" and WALL (0 to 9),");
        goesOn(CUP, "r2h4f9", "w");
        goesOn(CUP, "r2h4f9w", DIGITS);
        said.says("\"m\" and MIX (0 to 9),");
        goesOn(CUP, "r2h4f9w0", "m");
        goesOn(CUP, "r2h4f9w0m", DIGITS);
        for (int digit = 0; digit <= 9; digit++) {
            LeavesInCups x = Made.withCup("r2h2f" + digit + "w" + (9 - digit) + "m" + digit);
            said.is("a floor of " + digit, x.cupTold(2), digit);
            said.is("a wall of " + (9 - digit), x.cupTold(3), 9 - digit);
            said.is("a mix of " + digit, x.cupTold(4), digit);
        }
        said.says("then perhaps \"q\" (SQUARE).");
        goesOn(CUP, "r2h4f9w0m9", "q");
        goesOn(CUP, "r2h4f9w0m9q", "");
        said.is("without q", Made.withCup("r2h4f9w0m9").cupTold(5), 0);
        said.is("with q", Made.withCup("r2h4f9w0m9q").cupTold(5), 1);
        for (int end = 0; end < 10; end++) {
            reads(CUP, "r2h4f9w0m9".substring(0, end), STATE);
        }
        reads(CUP, "r2h4f9w0m9qq", STATE);
        reads(CUP, "r2h4f9w0mq", STATE);
        said.says("RINGS are numbered from the middle (0), HEIGHTS from the floor (0).");
        LeavesInCups x = Edges.after("r3h2f0w0m0", Edges.STIRRED, 8, 1);
        Edges.then(x, Edges.STRAWED, 0, 1);
        said.is("the middle is strawed", x.round(0, 1), 4);
        said.is("the next ring is not", x.round(1, 1), 8);
        said.is("the floor is not stirred", x.round(1, 0), 0);
    }

    private void rowText() {
        said.says("are texts: one to six ITEMS with \",\" between:");
        reads(ROW, "", STATE);
        StringBuilder items = new StringBuilder("0*1");
        for (int many = 1; many <= 6; many++) {
            reads(ROW, items.toString(), 0);
            goesOn(ROW, items.toString(), many < 6 ? DIGITS + "," : DIGITS);
            items.append(",0*1");
        }
        reads(ROW, items.toString(), STATE);
        reads(ROW, "0*1,", STATE);
        reads(ROW, ",0*1", STATE);
        reads(ROW, "0*1,,0*1", STATE);
        said.says("a digit (0 to 7: a DOING), \"*\",");
        goesOn(ROW, "", "01234567");
        goesOn(ROW, "7*60,", "01234567");
        goesOn(ROW, "7", "*");
        reads(ROW, "7*1", 0);
        reads(ROW, "8*1", STATE);
        reads(ROW, "01", STATE);
        said.says("TICKS (1 to 60, without a 0 ahead).");
        goesOn(ROW, "0*", "123456789");
        for (int first = 1; first <= 9; first++) {
            goesOn(ROW, "0*" + first, first < 6 ? DIGITS + "," : first == 6 ? "0," : ",");
        }
        goesOn(ROW, "0*60", ",");
        goesOn(ROW, "0*10", ",");
        for (int ticks = 0; ticks <= 110; ticks++) {
            reads(ROW, "0*" + ticks, ticks >= 1 && ticks <= 60 ? 0 : STATE);
        }
        reads(ROW, "0*01", STATE);
        reads(ROW, "0*", STATE);
        said.says("ROWS (6 at most, numbered)");
        LeavesInCups x = new LeavesInCups();
        for (int row = 0; row < 6; row++) {
            said.is("the next row", Made.row(x, "0*1"), row);
        }
        said.is("a seventh", Made.row(x, "0*1"), FULL);
    }

    private void riverText() {
        said.says("A RIVER is a text: POINTS (4 to 10) with \",\" between:");
        reads(RIVER, "", STATE);
        StringBuilder points = new StringBuilder("99h");
        for (int many = 1; many <= 10; many++) {
            reads(RIVER, points.toString(), many < 4 ? STATE : many);
            goesOn(RIVER, points.toString(), many < 10 ? "," : "");
            points.append(",99h");
        }
        reads(RIVER, points.toString(), STATE);
        reads(RIVER, "1,2,3,4,", STATE);
        reads(RIVER, "1,,2,3,4", STATE);
        reads(RIVER, ",1,2,3,4", STATE);
        said.says("an OFF-SIDE (0 to 99, without a 0 ahead),");
        goesOn(RIVER, "", DIGITS);
        goesOn(RIVER, "5h,", DIGITS);
        goesOn(RIVER, "0", "h,");
        for (int digit = 1; digit <= 9; digit++) {
            goesOn(RIVER, "" + digit, DIGITS + "h,");
            goesOn(RIVER, digit + "0", "h,");
        }
        for (int side = 0; side <= 110; side++) {
            String text = "0,0,0," + side;
            reads(RIVER, text, side <= 99 ? 4 : STATE);
            said.is("its last point", Made.withRiver(text).point(3, 0, 0, 1), side <= 99 ? side : UNKNOWN);
        }
        reads(RIVER, "0,0,0,00", STATE);
        reads(RIVER, "01,0,0,0", STATE);
        said.says("and perhaps \"h\" (HELD).");
        goesOn(RIVER, "0h", ",");
        goesOn(RIVER, "99h", ",");
        reads(RIVER, "0h,0h,0h,0h", 4);
        reads(RIVER, "0,0,0,0h", 4);
        reads(RIVER, "0,0,0,h", STATE);
        reads(RIVER, "0,0,0,0hh", STATE);
    }

    private void newObject() {
        said.in("Promise 1");
        LeavesInCups x = new LeavesInCups();
        said.says("No CUP,");
        said.is("rings", x.count(0), 0);
        said.is("cupTold(0)", x.cupTold(0), STATE);
        said.is("still()", x.still(), STATE);
        said.is("how often a cup was read", x.count(7), 0);
        said.says("no DOINGS,");
        said.is("doings", x.count(1), 0);
        said.is("as(0, 0)", x.as(0, 0), UNKNOWN);
        said.says("no LEAVES,");
        said.is("leaves", x.count(2), 0);
        said.is("about(0, 0)", x.about(0, 0), UNKNOWN);
        said.says("no ROWS,");
        said.is("rows", x.count(3), 0);
        said.is("off(0)", x.off(0), UNKNOWN);
        said.says("no RIVER.");
        said.is("points", x.count(5), 0);
        said.is("cuts(0, 0, 1)", x.cuts(0, 0, 1), STATE);
        said.is("point(0, 0, 0, 1)", x.point(0, 0, 0, 1), UNKNOWN);
        said.is("nothing else", x.digest(), Edges.digestOf(0, 0, 0, 0, 0, 0, 0, 0, 0));
    }

    private void letters() {
        said.in("Promise 2");
        said.says("Letters come behind THE PAGE,");
        LeavesInCups x = new LeavesInCups();
        said.is("the first", x.letters('a'), 1);
        said.is("the second", x.letters('b'), 2);
        said.is("two more", x.letters(Made.word("cd")), 4);
        said.is("in their order", x.digest(), Edges.digestOf(97, 98, 99, 100, 0, 0, 0, 0, 0, 0, 4, 0, 0));
        said.says("up to eight, told by their codes in the bytes of w,");
        for (int many = 0; many <= 8; many++) {
            said.is(many + " letters", new LeavesInCups().letters(Made.word("abcdefgh".substring(0, many))), many);
        }
        said.says("the lowest byte first, until a byte that is 0: how many THE PAGE has.");
        LeavesInCups y = new LeavesInCups();
        said.is("none of an empty page", y.letters(0), 0);
        said.is("codes 1 to 8", y.letters(0x0807060504030201L), 8);
        said.is("none behind them", y.letters(0), 8);
        said.is("the lowest first", y.digest(), Edges.digestOf(1, 2, 3, 4, 5, 6, 7, 8, 0, 0, 0, 0, 0, 0, 8, 0, 0));
    }

    private void lettersRefused() {
        said.says("OUTSIDE: a byte above 126,");
        for (int place = 0; place < 8; place++) {
            String ahead = "1234567".substring(0, place);
            said.is("126 in place " + place, new LeavesInCups().letters(Made.word(ahead + (char) 126)), place + 1);
            for (int code = 127; code <= 255; code++) {
                said.is(code + " in place " + place, new LeavesInCups().letters(Made.word(ahead + (char) code)), OUTSIDE);
            }
        }
        said.is("all bytes 255", new LeavesInCups().letters(-1L), OUTSIDE);
        said.is("the least w", new LeavesInCups().letters(Long.MIN_VALUE), OUTSIDE);
        said.is("the most w", new LeavesInCups().letters(Long.MAX_VALUE), OUTSIDE);
        said.says("or one behind a 0 that is not 0;");
        for (int empty = 0; empty < 7; empty++) {
            for (int place = empty + 1; place < 8; place++) {
                StringBuilder word = new StringBuilder("1234567".substring(0, empty));
                while (word.length() < place) {
                    word.append((char) 0);
                }
                Edges.refused(said, "a 0 in place " + empty + ", a letter in place " + place, Edges.page("r2"),
                    x -> x.letters(Made.word(word + "r")), OUTSIDE);
            }
        }
        said.says("FULL: above 50.");
        String most = "12345678901234567890123456789012345678901234567890";
        for (int had = 42; had <= 50; had++) {
            for (int come = 0; come <= 8; come++) {
                String coming = "abcdefgh".substring(0, come);
                int want = had + come <= 50 ? had + come : FULL;
                LeavesInCups x = Edges.page(most.substring(0, had));
                said.is(come + " letters behind " + had, x.letters(Made.word(coming)), want);
                said.is("of them come", x.count(6), want == FULL ? had : had + come);
            }
        }
        Edges.refused(said, "OUTSIDE ahead of FULL", Edges.page(most), x -> x.letters(127), OUTSIDE);
        Edges.refused(said, "OUTSIDE ahead of FULL", Edges.page(most), x -> x.letters('a' << 8), OUTSIDE);
        Edges.refused(said, "FULL", Edges.page(most), x -> x.letters('a'), FULL);
    }

    private void blank() {
        said.in("Promise 3");
        said.says("THE PAGE is empty: how many letters it had.");
        said.is("of a new object", new LeavesInCups().blank(), 0);
        for (int many : new int[] {1, 49, 50}) {
            LeavesInCups x = Edges.page("r2h2f0w0m0".repeat(5).substring(0, many));
            said.is("blank()", x.blank(), many);
            said.is("blank() again", x.blank(), 0);
            said.is("the page is empty", x.count(6), 0);
            said.is("a fault in an empty page", x.fault(0), 0);
            said.is("a text from its start", Made.cup(x, "r5h2f0w0m0"), 5);
        }
        LeavesInCups full = Edges.page("x".repeat(50));
        full.blank();
        said.is("the page takes 50 again", Made.write(full, "y".repeat(50)), 50);
    }

    private void fault() {
        said.in("Promise 4");
        said.says("The place (from 0) of the first letter of THE PAGE that no CUP (sort 0), ROW (1), RIVER (2) has there,");
        String[] first = {"0*1", "r2", "h"};
        for (int sort = CUP; sort <= RIVER; sort++) {
            said.is("the very first", Edges.page(first[sort]).fault(sort), 0);
        }
        said.is("the last", Edges.page("r2h2f0w0mx").fault(CUP), 9);
        said.is("the one behind a whole text", Edges.page("r2h2f0w0m0qx").fault(CUP), 11);
        said.is("the one behind a whole text", Edges.page("0*1,0*1,0*1,0*1,0*1,0*60,").fault(ROW), 24);
        said.is("the one behind a whole text", Edges.page("1h,2h,3h,4h,5h,6h,7h,8h,9h,10h,").fault(RIVER), 30);
        said.is("the last of 50", Edges.page("r2h2f0w0m0q" + "x".repeat(39)).fault(CUP), 11);
        said.says("behind those ahead of it;");
        said.is("6 would be one, 61 is not", Edges.page("0*61").fault(ROW), 3);
        said.is("61 behind 0*6, as told", Edges.page("0*6").fault(ROW), 3);
        said.is("a 0 behind a 0", Edges.page("10,00").fault(RIVER), 4);
        said.is("a 0 behind a 1", Edges.page("10,10").fault(RIVER), 5);
        said.is("the first of two", Edges.page("r9h9").fault(CUP), 1);
        said.says("how many letters it has, if there is none.");
        for (int sort = CUP; sort <= RIVER; sort++) {
            said.is("of an empty page", new LeavesInCups().fault(sort), 0);
        }
        String[] whole = {"r6h4f9w9m9q", "7*60,7*60,7*60,7*60,7*60,7*60", "99h,99h,99h,99h,99h,99h,99h,99h,99h,99h"};
        for (int sort = CUP; sort <= RIVER; sort++) {
            for (int many = 1; many <= whole[sort].length(); many++) {
                LeavesInCups x = Edges.page(whole[sort].substring(0, many));
                said.is("a start of " + many, x.fault(sort), many);
                said.is("the same again", x.fault(sort), many);
                said.is("the page stays", x.count(6), many);
            }
        }
        said.says("OUTSIDE.");
        for (int sort : Edges.beyond(0, 2)) {
            Edges.refused(said, "fault(" + sort + ")", Edges.page("r2"), x -> x.fault(sort), OUTSIDE);
        }
    }

    private void cup() {
        said.in("Promise 5");
        said.says("THE PAGE is read as THE CUP");
        said.is("the smallest", Made.cup(new LeavesInCups(), "r2h2f0w0m0"), 2);
        said.is("the largest", Made.cup(new LeavesInCups(), "r6h4f9w9m9q"), 6);
        said.says("THE PAGE is empty then.");
        LeavesInCups x = Edges.page("r3h2f0w0m0");
        said.is("cup()", x.cup(), 3);
        said.is("letters", x.count(6), 0);
        said.is("the page takes 50", Made.write(x, "z".repeat(50)), 50);
        said.says("STATE: it is none.");
        Edges.refused(said, "an empty page", new LeavesInCups(), LeavesInCups::cup, STATE);
        String[] none = {"r", "r2h2f0w0m", "r2h2f0w0m0qq", "xr2h2f0w0m0", "q", "0*1", "1,2,3,4", "R2H2F0W0M0", "r2h2w0f0m0"};
        for (String text : none) {
            Edges.refused(said, "cup() of " + text, Edges.page(text), LeavesInCups::cup, STATE);
        }
        LeavesInCups y = Edges.after("r3h2f0w0m0", Edges.STIRRED, 10, 1);
        y.leaf(2, 0, 0);
        y.want(1, 5);
        y.seen(0, 1);
        y.image();
        Made.write(y, "r3h2f0w0m");
        Edges.refused(said, "one letter less", y, LeavesInCups::cup, STATE);
        said.is("the image stays", y.restore(), 1);
        Made.write(y, "0q0");
        Edges.refused(said, "one letter more", y, LeavesInCups::cup, STATE);
    }

    private void cupIsGone() {
        said.says("(another one is gone, with all LEAVES, WANT, SEEN; water is still): RINGS;");
        for (String text : new String[] {"r3h2f0w0m0", "r6h4f9w9m9q", "r2h3f1w2m3"}) {
            LeavesInCups x = Edges.after("r3h2f0w0m0", Edges.STIRRED, 10, 1);
            for (int leaf = 0; leaf < 8; leaf++) {
                x.leaf(2, 0, 0);
                x.seen(leaf, 1);
            }
            for (int ring = 0; ring < 3; ring++) {
                x.want(ring, 8);
            }
            x.ticks(0, 1);
            int rings = text.charAt(1) - '0';
            said.is("cup() of " + text, Made.cup(x, text), rings);
            said.is("its rings", x.count(0), rings);
            said.is("no leaves", x.count(2), 0);
            said.is("no leaf 0", x.about(0, 0), UNKNOWN);
            for (int ring = 0; ring < rings; ring++) {
                said.is("nothing is wanted", x.want(ring, 0), 0);
                for (int height = 0; height < x.cupTold(1); height++) {
                    said.is("the water is still", x.round(ring, height), 0);
                }
            }
            for (int leaf = 0; leaf < 8; leaf++) {
                said.is("leaves from 0 again", x.leaf(1, 0, 0), leaf);
                said.is("nothing is seen", x.about(leaf, 5), Edges.NONE);
                said.is("where it is told", x.about(leaf, 0), 1);
            }
        }
    }

    private void row() {
        said.in("Promise 6");
        said.says("THE PAGE is read as a ROW: its number;");
        LeavesInCups x = new LeavesInCups();
        said.is("the shortest", Made.row(x, "0*1"), 0);
        said.is("the longest", Made.row(x, "7*60,7*60,7*60,7*60,7*60,7*60"), 1);
        said.says("THE PAGE is empty then.");
        said.is("letters", x.count(6), 0);
        said.is("the page takes 50", Made.write(x, "z".repeat(50)), 50);
        x.blank();
        said.says("STATE: it is none;");
        Edges.refused(said, "an empty page", x, LeavesInCups::row, STATE);
        for (String text : new String[] {"0", "0*", "0*0", "0*61", "8*1", "0*1,", "0*1 ", "r2h2f0w0m0", "1,2,3,4"}) {
            x.blank();
            Made.write(x, text);
            Edges.refused(said, "row() of " + text, x, LeavesInCups::row, STATE);
        }
        said.says("FULL.");
        x.blank();
        for (int row = 2; row < 6; row++) {
            said.is("one more", Made.row(x, "1*" + row), row);
        }
        Made.write(x, "1*");
        Edges.refused(said, "STATE ahead of FULL", x, LeavesInCups::row, STATE);
        Made.write(x, "6");
        Edges.refused(said, "a seventh", x, LeavesInCups::row, FULL);
        said.is("its page stays", x.count(6), 3);
        said.is("six rows", x.count(3), 6);
    }

    private void river() {
        said.in("Promise 7");
        said.says("THE PAGE is read as THE RIVER (another one is gone): how many POINTS;");
        LeavesInCups x = new LeavesInCups();
        said.is("ten", Made.river(x, "9h,8h,7h,6h,5h,4h,3h,2h,1h,0h"), 10);
        said.is("four", Made.river(x, "10,20,30,40"), 4);
        said.is("points", x.count(5), 4);
        said.is("its last", x.point(3, 0, 0, 1), 40);
        said.is("what was behind it is gone", x.point(4, 0, 0, 1), UNKNOWN);
        Made.river(x, "0,50,0,0");
        said.is("what was held is not", x.cuts(1, 0, 1), 1);
        Made.river(x, "0,50h,0,0");
        said.is("what was not held is", x.cuts(1, 0, 1), 0);
        said.says("THE PAGE is empty then.");
        said.is("letters", x.count(6), 0);
        said.is("the page takes 50", Made.write(x, "z".repeat(50)), 50);
        said.says("STATE: it is none.");
        for (String text : new String[] {"", "1", "1,2,3", "1,2,3,", "1,2,3,4,", "1,2,3,04", "1,2,3,100", "1,2,3,4h5"}) {
            x.blank();
            Made.write(x, text);
            Edges.refused(said, "river() of " + text, x, LeavesInCups::river, STATE);
        }
        said.is("the old one stays", x.point(1, 0, 0, 1), 50);
    }

    private void cupTold() {
        said.in("Promise 8");
        said.says("Of THE CUP: what = 0 RINGS, 1 HEIGHTS, 2 FLOOR, 3 WALL, 4 MIX, 5 whether it is SQUARE (1, 0).");
        LeavesInCups least = Made.withCup("r2h2f0w0m0");
        LeavesInCups most = Made.withCup("r6h4f9w8m7q");
        int[][] told = {{2, 2, 0, 0, 0, 0}, {6, 4, 9, 8, 7, 1}};
        for (int what = 0; what <= 5; what++) {
            said.is("least: cupTold(" + what + ")", least.cupTold(what), told[0][what]);
            said.is("most: cupTold(" + what + ")", most.cupTold(what), told[1][what]);
        }
        LeavesInCups often = new LeavesInCups();
        for (int cups = 0; cups < 8; cups++) {
            Made.cup(often, cups % 3 == 0 ? "r6h4f9w8m7q" : "r2h2f0w0m0");
            for (int what = 0; what <= 5; what++) {
                said.is("cup " + cups + ": cupTold(" + what + ")", often.cupTold(what), told[cups % 3 == 0 ? 1 : 0][what]);
            }
        }
        said.says("STATE: there is none;");
        for (int what = -1; what <= 6; what++) {
            said.is("without a cup: cupTold(" + what + ")", Edges.page("r2h2f0w0m0").cupTold(what), STATE);
        }
        said.says("OUTSIDE.");
        for (int what : Edges.beyond(0, 5)) {
            Edges.refused(said, "cupTold(" + what + ")", most, x -> x.cupTold(what), OUTSIDE);
        }
    }
}
