import java.util.function.ToIntFunction;

/** What tests of the edges share. */
final class Edges {
    static final int NONE = -1, UNKNOWN = -101, OUTSIDE = -102, STATE = -103, FULL = -104;
    static final int NO_ROUND = -1001, NO_TICKS = -1002;
    static final int REST = 0, STIRRED = 1, AGAINST = 2, TURNED = 3, STRAWED = 4;
    static final int LEAST = Integer.MIN_VALUE, MOST = Integer.MAX_VALUE;

    /** Numbers below the least and above the most of something: the next ones, and the farthest. */
    static int[] beyond(int least, int most) {
        return new int[] {least - 1, most + 1, LEAST, MOST, least - 1000, most + 1000};
    }

    /** A new object whose page has a text. */
    static LeavesInCups page(String text) {
        LeavesInCups x = new LeavesInCups();
        Made.write(x, text);
        return x;
    }

    /** A cup with one doing (0) that was done so many ticks from still water. */
    static LeavesInCups after(String cup, int kind, int n, int many) {
        LeavesInCups x = Made.withCup(cup);
        x.doing(kind, n);
        x.ticks(0, many);
        return x;
    }

    /** Does a doing of a kind, told for it alone. */
    static void then(LeavesInCups x, int kind, int n, int many) {
        x.ticks(x.doing(kind, n), many);
    }

    static void rounds(Said said, LeavesInCups x, int ring, int... wanted) {
        for (int height = 0; height < wanted.length; height++) {
            said.is("round(" + ring + ", " + height + ")", x.round(ring, height), wanted[height]);
        }
    }

    /** The call is refused as told, and the object tells of all what it told ahead. */
    static void refused(Said said, String call, LeavesInCups x, ToIntFunction<LeavesInCups> asks, int want) {
        long ahead = x.digest();
        said.is(call, asks.applyAsInt(x), want);
        said.is(call + " changes nothing", x.digest(), ahead);
    }

    static long digestOf(int... numbers) {
        long h = 443;
        for (int number : numbers) {
            h = 31 * h + number;
        }
        return h;
    }

    private Edges() {
    }
}
