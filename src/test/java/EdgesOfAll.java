import java.math.BigInteger;
import java.util.LinkedHashMap;
import java.util.Map;
import java.util.function.ToIntFunction;

/** What the document says of the image, counts, the digest, of refusals and of 512 calls, promises 34 to 37. */
final class EdgesOfAll {
    private static final int NONE = Edges.NONE, UNKNOWN = Edges.UNKNOWN, OUTSIDE = Edges.OUTSIDE;
    private static final int STATE = Edges.STATE, FULL = Edges.FULL;
    private static final int NO_ROUND = Edges.NO_ROUND, NO_TICKS = Edges.NO_TICKS;
    private static final int STIRRED = Edges.STIRRED, AGAINST = Edges.AGAINST, TURNED = Edges.TURNED;
    private static final String LONGEST = "7*60,7*60,7*60,7*60,7*60,7*60";

    private final Said said;

    EdgesOfAll(Said said) {
        this.said = said;
    }

    void all() {
        imageInTerms();
        refusalsInTerms();
        withoutCupInTerms();
        image();
        restore();
        restoreRefused();
        count();
        digest();
        digestWraps();
        calls();
    }

    private void imageInTerms() {
        said.in("Terms");
        said.says("An IMAGE keeps ROUNDS, where LEAVES are, WANT, SEEN.");
        LeavesInCups x = moved();
        long ahead = x.digest();
        x.image();
        Edges.then(x, AGAINST, 20, 40);
        for (int ring = 0; ring < 6; ring++) {
            x.want(ring, ring);
        }
        for (int leaf = 0; leaf < 8; leaf++) {
            x.seen(leaf, NONE);
        }
        LeavesInCups twin = moved();
        said.is("the same calls", twin.digest(), ahead);
        twin.doing(AGAINST, 20);
        said.isTrue("all is another", x.digest() != twin.digest());
        x.restore();
        said.is("all is as it was, but for the doing that came", x.digest(), twin.digest());
    }

    /** Water that goes round, with leaves in all rings, and all wanted and seen somewhere. */
    private static LeavesInCups moved() {
        LeavesInCups x = Edges.after("r6h4f9w5m5", STIRRED, 20, 7);
        for (int leaf = 0; leaf < 8; leaf++) {
            x.leaf(5 - leaf % 6, leaf, leaf % 3);
            x.seen(leaf, leaf % 6);
        }
        for (int ring = 0; ring < 6; ring++) {
            x.want(ring, ring + 3);
        }
        Edges.then(x, TURNED, 40, 3);
        return x;
    }

    /** An object that has all that it can have: six rings, eight doings, and so on, and an older image. */
    private static LeavesInCups full() {
        LeavesInCups x = Made.withCup("r6h4f3w2m4q");
        int[][] doings = {{1, 20}, {2, 7}, {3, 40}, {4, 0}, {0, 0}, {1, 3}, {3, 9}, {2, 20}};
        for (int[] d : doings) {
            x.doing(d[0], d[1]);
        }
        for (int leaf = 0; leaf < 8; leaf++) {
            x.leaf(leaf % 6, leaf, leaf % 4);
            x.seen(leaf, leaf % 5);
        }
        for (int ring = 0; ring < 6; ring++) {
            x.want(ring, 8 - ring);
        }
        for (int row = 0; row < 6; row++) {
            Made.row(x, row + "*" + (row + 1) + ",7*60");
        }
        for (int many = 0; many < 12; many++) {
            x.picture(99 - 10 * many, 50 - 5 * many);
        }
        Made.river(x, "50,20,30,80,10,60h,10,99,0,44");
        for (int done = 0; done < 12; done++) {
            x.found(done % 3);
        }
        x.ticks(0, 5);
        x.image();
        x.ticks(2, 3);
        x.want(0, 3);
        x.seen(7, NONE);
        Made.write(x, "r9,8*61h");
        return x;
    }

    private static Map<String, ToIntFunction<LeavesInCups>> refusedWhenFull(int code) {
        Map<String, ToIntFunction<LeavesInCups>> calls = new LinkedHashMap<>();
        if (code == UNKNOWN) {
            calls.put("as(8, 0)", x -> x.as(8, 0));
            calls.put("leaf(6, 0, 0)", x -> x.leaf(6, 0, 0));
            calls.put("about(8, 0)", x -> x.about(8, 0));
            calls.put("ticks(8, 1)", x -> x.ticks(8, 1));
            calls.put("ticks(-2, 1)", x -> x.ticks(-2, 1));
            calls.put("ends(6, 0)", x -> x.ends(6, 0));
            calls.put("ends(0, 8)", x -> x.ends(0, 8));
            calls.put("lies(6, 0)", x -> x.lies(6, 0));
            calls.put("lies(0, 8)", x -> x.lies(0, 8));
            calls.put("line(6, 0, 0)", x -> x.line(6, 0, 0));
            calls.put("line(0, 6, 0)", x -> x.line(0, 6, 0));
            calls.put("want(6, 1)", x -> x.want(6, 1));
            calls.put("off(6)", x -> x.off(6));
            calls.put("seen(8, 0)", x -> x.seen(8, 0));
            calls.put("seen(0, 6)", x -> x.seen(0, 6));
            calls.put("apart(6, 0, 0)", x -> x.apart(6, 0, 0));
            calls.put("apart(0, 8, 0)", x -> x.apart(0, 8, 0));
            calls.put("apart(0, 0, 8)", x -> x.apart(0, 0, 8));
            calls.put("point(10, 0, 0, 1)", x -> x.point(10, 0, 0, 1));
        } else if (code == STATE) {
            calls.put("cup()", LeavesInCups::cup);
            calls.put("row()", LeavesInCups::row);
            calls.put("river()", LeavesInCups::river);
            calls.put("found(0)", x -> x.found(0));
        } else if (code == FULL) {
            calls.put("doing(1, 1)", x -> x.doing(1, 1));
            calls.put("leaf(0, 0, 0)", x -> x.leaf(0, 0, 0));
            calls.put("picture(0, 0)", x -> x.picture(0, 0));
        } else if (code == NO_ROUND) {
            calls.put("round(6, 0)", x -> x.round(6, 0));
            calls.put("round(0, 4)", x -> x.round(0, 4));
            calls.put("second(6)", x -> x.second(6));
            calls.put("would(8, 1, 0)", x -> x.would(8, 1, 0));
            calls.put("would(0, 1, 6)", x -> x.would(0, 1, 6));
        } else if (code == NO_TICKS) {
            calls.put("would(0, 0, 0)", x -> x.would(0, 0, 0));
            calls.put("would(0, 101, 0)", x -> x.would(0, 101, 0));
        } else {
            outsideWhenFull(calls);
        }
        return calls;
    }

    private static void outsideWhenFull(Map<String, ToIntFunction<LeavesInCups>> calls) {
        calls.put("letters(127)", x -> x.letters(127));
        calls.put("letters(256)", x -> x.letters(256));
        calls.put("fault(3)", x -> x.fault(3));
        calls.put("cupTold(6)", x -> x.cupTold(6));
        calls.put("doing(1, 21)", x -> x.doing(1, 21));
        calls.put("as(0, 5)", x -> x.as(0, 5));
        calls.put("leaf(0, 10, 0)", x -> x.leaf(0, 10, 0));
        calls.put("leaf(0, 0, 10)", x -> x.leaf(0, 0, 10));
        calls.put("about(0, 6)", x -> x.about(0, 6));
        calls.put("ticks(0, 0)", x -> x.ticks(0, 0));
        calls.put("ticks(0, 101)", x -> x.ticks(0, 101));
        calls.put("line(0, 0, 10)", x -> x.line(0, 0, 10));
        calls.put("want(0, 9)", x -> x.want(0, 9));
        calls.put("found(3)", x -> x.found(3));
        calls.put("picture(100, 0)", x -> x.picture(100, 0));
        calls.put("picture(0, -100)", x -> x.picture(0, -100));
        calls.put("point(0, 100, 0, 1)", x -> x.point(0, 100, 0, 1));
        calls.put("cuts(0, 10, 1)", x -> x.cuts(0, 10, 1));
        calls.put("firstCut(0, 100)", x -> x.firstCut(0, 100));
        calls.put("saves(-1, 0, 1)", x -> x.saves(-1, 0, 1));
        calls.put("count(9)", x -> x.count(9));
    }

    private void refusalsInTerms() {
        said.says("Refusals, of several the first as told by each call:"
            + " UNKNOWN (a number names nothing), OUTSIDE (it is not as told), STATE (as told), FULL;");
        LeavesInCups x = full();
        long ahead = x.digest();
        int[] codes = {UNKNOWN, OUTSIDE, STATE, FULL, NO_ROUND, NO_TICKS};
        for (int code : codes) {
            refusedWhenFull(code).forEach((call, asks) -> said.is(call, asks.applyAsInt(x), code));
        }
        said.is("as(8, 5)", x.as(8, 5), UNKNOWN);
        said.is("leaf(6, 10, 10)", x.leaf(6, 10, 10), UNKNOWN);
        said.is("leaf(0, 10, 10)", x.leaf(0, 10, 10), OUTSIDE);
        said.is("about(8, 6)", x.about(8, 6), UNKNOWN);
        said.is("ticks(8, 0)", x.ticks(8, 0), UNKNOWN);
        said.is("would(8, 0, 6)", x.would(8, 0, 6), NO_ROUND);
        said.is("line(6, 6, 10)", x.line(6, 6, 10), UNKNOWN);
        said.is("want(6, 9)", x.want(6, 9), UNKNOWN);
        said.is("point(10, 100, 10, 0)", x.point(10, 100, 10, 0), UNKNOWN);
        said.is("doing(5, 0)", x.doing(5, 0), OUTSIDE);
        said.is("picture(100, 100)", x.picture(100, 100), OUTSIDE);
        said.says("they change nothing.");
        said.is("all of them", x.digest(), ahead);
        for (int code : codes) {
            refusedWhenFull(code).forEach((call, asks) -> {
                said.is(call + ", then the digest", asks.applyAsInt(x) == code ? x.digest() : 0, ahead);
            });
        }
        LeavesInCups twin = full();
        said.is("the image stays", x.restore(), twin.restore());
        said.is("as it was", x.digest(), twin.digest());
        said.is("the page stays", x.blank(), twin.blank());
        Made.write(x, "0*1");
        Edges.refused(said, "a seventh row", x, LeavesInCups::row, FULL);
        Made.write(x, "x".repeat(45));
        Edges.refused(said, "56 letters", x, z -> z.letters(Made.word("12345678")), FULL);
    }

    private void withoutCupInTerms() {
        said.says("Without a CUP: STATE, where it is told, behind UNKNOWN.");
        LeavesInCups x = new LeavesInCups();
        x.doing(STIRRED, 1);
        Made.row(x, "0*1");
        Map<String, ToIntFunction<LeavesInCups>> state = new LinkedHashMap<>();
        state.put("cupTold(0)", z -> z.cupTold(0));
        state.put("cupTold(6)", z -> z.cupTold(6));
        state.put("ticks(0, 1)", z -> z.ticks(0, 1));
        state.put("ticks(NONE, 0)", z -> z.ticks(NONE, 0));
        state.put("still()", LeavesInCups::still);
        state.put("off(0)", z -> z.off(0));
        state.put("found(0)", z -> z.found(0));
        state.put("found(3)", z -> z.found(3));
        state.put("read()", LeavesInCups::read);
        state.put("tells()", LeavesInCups::tells);
        state.put("image()", LeavesInCups::image);
        state.put("restore()", LeavesInCups::restore);
        state.forEach((call, asks) -> Edges.refused(said, call, x, asks, STATE));
        Map<String, ToIntFunction<LeavesInCups>> unknown = new LinkedHashMap<>();
        unknown.put("leaf(0, 0, 0)", z -> z.leaf(0, 0, 0));
        unknown.put("about(0, 0)", z -> z.about(0, 0));
        unknown.put("ticks(1, 1)", z -> z.ticks(1, 1));
        unknown.put("ends(0, 0)", z -> z.ends(0, 0));
        unknown.put("lies(0, 0)", z -> z.lies(0, 0));
        unknown.put("line(0, 0, 0)", z -> z.line(0, 0, 0));
        unknown.put("want(0, 0)", z -> z.want(0, 0));
        unknown.put("off(1)", z -> z.off(1));
        unknown.put("seen(0, NONE)", z -> z.seen(0, NONE));
        unknown.put("apart(0, 0, 0)", z -> z.apart(0, 0, 0));
        unknown.forEach((call, asks) -> Edges.refused(said, call, x, asks, UNKNOWN));
        said.is("round", x.round(0, 0), NO_ROUND);
        said.is("second", x.second(0), NO_ROUND);
        said.is("would", x.would(0, 1, 0), NO_ROUND);
        said.is("pictures need none", x.picture(1, 1), 1);
        said.is("nor does a drag", x.drag(), 0);
        said.is("nor a river", Made.river(x, "1,2,3,4"), 4);
    }

    private void image() {
        said.in("Promise 34");
        said.says("An IMAGE is kept (one; the latest): how many LEAVES.");
        LeavesInCups x = Edges.after("r2h2f0w0m0", STIRRED, 1, 1);
        for (int leaves = 0; leaves <= 8; leaves++) {
            said.is("of " + leaves, x.image(), leaves);
            x.leaf(1, 0, 9);
            x.ticks(0, 1);
        }
        said.is("the latest", x.restore(), 8);
        said.is("by its rounds", x.round(0, 1), 9);
        x.still();
        said.is("kept again", x.image(), 8);
        x.ticks(0, 1);
        x.restore();
        said.is("the one ahead of it is gone", x.round(0, 1), 0);
        said.is("of eight", x.image(), 8);
        said.says("STATE: there is no CUP.");
        Edges.refused(said, "without a cup", new LeavesInCups(), LeavesInCups::image, STATE);
        Edges.refused(said, "with a cup half told", Edges.page("r2h2"), LeavesInCups::image, STATE);
    }

    private void restore() {
        said.in("Promise 35");
        said.says("It goes on from the IMAGE");
        LeavesInCups x = Edges.after("r3h2f0w0m0", STIRRED, 10, 1);
        x.leaf(2, 0, 0);
        x.want(2, 8);
        x.seen(0, 2);
        x.image();
        for (int again = 0; again < 3; again++) {
            x.ticks(0, 1 + again);
            x.want(2, again);
            x.seen(0, again - 1);
            said.is("restore()", x.restore(), 1);
            said.is("rounds", x.round(2, 1), 10);
            said.is("where the leaf is", x.about(0, 0), 2);
            said.is("where it was told", x.about(0, 1), 2);
            said.is("what is wanted", x.want(2, 8), 8);
            said.is("what is seen", x.about(0, 5), 2);
        }
        x.ticks(NONE, 1);
        said.is("it goes on", x.about(0, 0), 1);
        x.doing(STIRRED, 1);
        Made.row(x, "0*1");
        x.picture(1, 1);
        Made.river(x, "1,2,3,4");
        Made.write(x, "abc");
        x.found(0);
        x.restore();
        int[] counts = {3, 2, 1, 1, 1, 4, 3, 1, 1};
        for (int what = 0; what <= 8; what++) {
            said.is("the rest is as it is: count(" + what + ")", x.count(what), counts[what]);
        }
        said.says("(LEAVES that came since stay where they are): how many LEAVES.");
        LeavesInCups y = Edges.after("r4h2f0w0m0", STIRRED, 10, 1);
        y.leaf(3, 0, 0);
        y.image();
        for (int leaf = 1; leaf < 8; leaf++) {
            y.leaf(3, 0, leaf % 2);
            y.seen(leaf, 2);
        }
        y.ticks(NONE, 2);
        said.is("eight", y.restore(), 8);
        said.is("the one that was there", y.about(0, 0), 3);
        for (int leaf = 1; leaf < 8; leaf++) {
            said.is("one that came since", y.about(leaf, 0), leaf % 2 == 0 ? 1 : 3);
            said.is("as it was told", y.about(leaf, 1), 3);
            said.is("as it was seen", y.about(leaf, 5), 2);
        }
    }

    private void restoreRefused() {
        said.says("STATE: none was kept,");
        Edges.refused(said, "of a new object", new LeavesInCups(), LeavesInCups::restore, STATE);
        LeavesInCups x = Made.withCup("r3h2f0w0m0");
        Edges.refused(said, "of a cup", x, LeavesInCups::restore, STATE);
        x.image();
        said.is("kept", x.restore(), 0);
        said.says("or a CUP was read since (of the same text, too).");
        Made.write(x, "r3h2f0w0m");
        x.cup();
        said.is("none was read", x.restore(), 0);
        Made.write(x, "0");
        x.cup();
        Edges.refused(said, "of the same text", x, LeavesInCups::restore, STATE);
        x.leaf(0, 0, 0);
        x.image();
        Made.cup(x, "r6h4f9w9m9q");
        Edges.refused(said, "of another", x, LeavesInCups::restore, STATE);
        Made.cup(x, "r3h2f0w0m0");
        Edges.refused(said, "of the first again", x, LeavesInCups::restore, STATE);
        x.image();
        said.is("kept anew", x.restore(), 0);
    }

    private void count() {
        said.in("Promise 36");
        said.says("How many: 0 RINGS, 1 DOINGS, 2 LEAVES, 3 ROWS, 4 PICTURES, 5 POINTS, 6 letters of THE PAGE,"
            + " 7 how often a CUP was read, 8 how often found() was done.");
        int[] most = {6, 8, 8, 6, 12, 10, 8, 1, 12};
        LeavesInCups x = full();
        for (int what = 0; what <= 8; what++) {
            said.is("new: count(" + what + ")", new LeavesInCups().count(what), 0);
            said.is("full: count(" + what + ")", x.count(what), most[what]);
        }
        Made.write(x, "y".repeat(42));
        said.is("50 letters", x.count(6), 50);
        x.blank();
        for (int cups = 2; cups <= 5; cups++) {
            Made.cup(x, "r2h2f0w0m0");
            said.is("cups read", x.count(7), cups);
            x.cup();
            said.is("none was refused and counted", x.count(7), cups);
        }
        int[] then = {2, 8, 0, 6, 12, 10, 0, 5, 12};
        for (int what = 0; what <= 8; what++) {
            said.is("then count(" + what + ")", x.count(what), then[what]);
        }
        said.says("OUTSIDE.");
        for (int what : Edges.beyond(0, 8)) {
            Edges.refused(said, "count(" + what + ")", x, z -> z.count(what), OUTSIDE);
        }
    }

    private void digest() {
        said.in("Promise 37");
        said.says("h is 443, then for each of these numbers, in order, 31 times h, and it");
        long h = 443;
        for (int i = 0; i < 9; i++) {
            h *= 31;
        }
        said.is("of a new object", new LeavesInCups().digest(), h);
        said.says("with a CUP (all up to the next semicolon) what cupTold() tells for 0 to 5,"
            + " ROUNDS RING by RING from the floor up, SECOND of each RING, WANT of each RING;");
        LeavesInCups x = Edges.after("r2h3f0w9m5q", STIRRED, 20, 1);
        x.want(0, 7);
        // The wall drags all of the last ring; 16 and 19 above 5 are a second turning of 2.
        said.is("of a cup", x.digest(), Edges.digestOf(2, 3, 0, 9, 5, 1, 5, 16, 19, 0, 0, 0, 2, 0, 7, 0,
            1, 20, 2, 1, 0, 0, 0, 0, 0, 1, 0));
        said.says("of each DOING KIND, n;");
        x.doing(Edges.REST, 0);
        said.is("of two", x.digest(), Edges.digestOf(2, 3, 0, 9, 5, 1, 5, 16, 19, 0, 0, 0, 2, 0, 7, 0,
            1, 20, 0, 0, 2, 2, 0, 0, 0, 0, 0, 1, 0));
        said.says("of each LEAF what about() tells for 0 to 5;");
        x.leaf(1, 8, 3);
        x.leaf(0, 9, 4);
        x.seen(1, 1);
        said.is("of two", x.digest(), Edges.digestOf(2, 3, 0, 9, 5, 1, 5, 16, 19, 0, 0, 0, 2, 0, 7, 0,
            1, 20, 0, 0, 1, 1, 8, 3, 0, NONE, 0, 0, 9, 4, 2, 1, 2, 2, 2, 0, 0, 0, 0, 1, 0));
        said.says("of each ROW how many ITEMS, of each ITEM the DOING, TICKS, and with a CUP where each LEAF ENDS;");
        Made.row(x, "7*60,6*1");
        said.is("of one", x.digest(), Edges.digestOf(2, 3, 0, 9, 5, 1, 5, 16, 19, 0, 0, 0, 2, 0, 7, 0,
            1, 20, 0, 0, 1, 1, 8, 3, 0, NONE, 0, 0, 9, 4, 2, 1, 2, 7, 60, 6, 1, 1, 0, 2, 2, 2, 1, 0, 0, 0, 1, 0));
        LeavesInCups one = Made.withCup("r2h2f0w0m0");
        Made.row(one, "0*1");
        said.is("without a leaf", one.digest(), Edges.digestOf(2, 2, 0, 0, 0, 0, 0, 0, 0, 0, 0, 0, 0, 0, 1, 0, 1,
            2, 0, 0, 1, 0, 0, 0, 1, 0));
        one.leaf(1, 9, 9);
        said.is("with one", one.digest(), Edges.digestOf(2, 2, 0, 0, 0, 0, 0, 0, 0, 0, 0, 0, 0, 0, 1, 1, 9, 9, 0, NONE,
            1, 0, 1, 1, 2, 0, 1, 1, 0, 0, 0, 1, 0));
        LeavesInCups none = new LeavesInCups();
        Made.row(none, LONGEST);
        Made.row(none, "0*1");
        said.is("without a cup", none.digest(), Edges.digestOf(6, 7, 60, 7, 60, 7, 60, 7, 60, 7, 60, 7, 60, 1, 0, 1,
            0, 0, 0, 2, 0, 0, 0, 0, 0));
        said.says("of each PICTURE both; of each POINT its OFF-SIDE, whether it is HELD (1, 0); letters of THE PAGE;"
            + " what count() tells for 0 to 8.");
        LeavesInCups y = new LeavesInCups();
        y.picture(-99, 99);
        y.picture(5, -6);
        Made.river(y, "0h,99,7,8h");
        Made.write(y, "~" + (char) 1);
        said.is("of the others", y.digest(), Edges.digestOf(-99, 99, 5, -6, 0, 1, 99, 0, 7, 0, 8, 1, 126, 1,
            0, 0, 0, 0, 2, 4, 2, 0, 0));
        y.point(1, 99, 9, 1);
        said.is("points as they were told", y.digest(), Edges.digestOf(-99, 99, 5, -6, 0, 1, 99, 0, 7, 0, 8, 1, 126, 1,
            0, 0, 0, 0, 2, 4, 2, 0, 0));
    }

    private void digestWraps() {
        said.says("(as longs, wrapping):");
        LeavesInCups x = new LeavesInCups();
        BigInteger h = BigInteger.valueOf(443);
        for (int many = 1; many <= 12; many++) {
            int ahead = many % 2 == 0 ? -99 : 99;
            x.picture(ahead, -many);
            h = h.multiply(BigInteger.valueOf(31)).add(BigInteger.valueOf(ahead));
            h = h.multiply(BigInteger.valueOf(31)).add(BigInteger.valueOf(-many));
            BigInteger whole = h;
            for (int what = 0; what <= 8; what++) {
                whole = whole.multiply(BigInteger.valueOf(31)).add(BigInteger.valueOf(what == 4 ? many : 0));
            }
            said.is("of " + many + " pictures", x.digest(), whole.longValue());
        }
        said.isTrue("it is above all longs by far", h.bitLength() > 100);
    }

    private void calls() {
        said.in("What it is");
        said.says("An object is used for at most 512 calls after it has been made;");
        LeavesInCups x = Edges.after("r6h4f9w9m9", STIRRED, 20, 1);
        // Two calls to write the cup, one to tell where letters are, and cup(), doing() and ticks(): 506 are left.
        int calls = 506;
        for (int i = 0; i < 250; i++) {
            x.ticks(0, 100);
            said.is("in time", x.still(), 1);
            calls -= 2;
        }
        said.is("leaf()", x.leaf(5, 9, 9), 0);
        said.is("want()", x.want(5, 8), 0);
        said.is("image()", x.image(), 1);
        said.is("restore()", x.restore(), 1);
        said.is("count(7)", x.count(7), 1);
        said.is("the 512th", x.digest(), Edges.digestOf(6, 4, 9, 9, 9, 0, 0, 0, 0, 0, 0, 0, 0, 0, 0, 0, 0, 0, 0, 0, 0, 0, 0,
            0, 0, 0, 0, 0, 0, 0, 0, 0, 0, 0, 0, 0, 0, 0, 0, 0, 0, 8, 1, 20, 5, 5, 9, 9, 0, NONE,
            6, 1, 1, 0, 0, 0, 0, 1, 0));
        said.is("calls that were left", calls, 6);
        LeavesInCups dear = full();
        long due = dear.digest();
        for (int i = 0; i < 300; i++) {
            said.is("the dearest", dear.digest(), due);
        }
    }
}
