import java.util.Random;

/** Long runs of calls, drawn from fixed seeds, asked of the class and of the document's second writing. */
public final class OracleTest {
    private static final int RUNS = 300;
    private static final int CALLS = 512;

    private final Due due;
    private final Random draw;
    private final int run;
    private final LeavesInCups x = new LeavesInCups();
    private final Oracle y = new Oracle();

    private OracleTest(Due due, int run) {
        this.due = due;
        this.run = run;
        this.draw = new Random(run);
    }

    private int below(int bound) {
        return draw.nextInt(bound);
    }

    /** Mostly least to most, at times a little or far outside. */
    private int about(int least, int most) {
        int kind = below(60);
        if (kind == 0) {
            return least - 1;
        }
        if (kind == 1) {
            return most + 1;
        }
        if (kind == 2) {
            return draw.nextInt();
        }
        if (kind == 3) {
            return below(2) == 0 ? Integer.MIN_VALUE : Integer.MAX_VALUE;
        }
        return least + below(most - least + 1);
    }

    private void is(String call, long got, long want) {
        due.is("run " + run + ": " + call, got, want);
    }

    private String cupText() {
        String digits = "0123456789";
        int[] calm = {below(4), below(4), below(10)};
        return "r" + (2 + below(5)) + "h" + (2 + below(3)) + "f" + digits.charAt(calm[0]) + "w" + digits.charAt(calm[1])
            + "m" + digits.charAt(calm[2]) + (below(3) == 0 ? "q" : "");
    }

    private String rowText() {
        StringBuilder row = new StringBuilder();
        int items = 1 + below(6);
        for (int i = 0; i < items; i++) {
            row.append(i == 0 ? "" : ",").append(below(8)).append('*').append(1 + below(below(2) == 0 ? 60 : 6));
        }
        return row.toString();
    }

    private String riverText() {
        StringBuilder river = new StringBuilder();
        int points = 4 + below(7);
        for (int i = 0; i < points; i++) {
            river.append(i == 0 ? "" : ",").append(below(100)).append(below(5) == 0 ? "h" : "");
        }
        return river.toString();
    }

    private String spoilt(String text) {
        if (below(4) != 0 || text.isEmpty()) {
            return text;
        }
        String signs = "0123456789rhfwmq*,h x~";
        int place = below(text.length());
        String sign = "" + signs.charAt(below(signs.length()));
        switch (below(4)) {
            case 0:
                return text.substring(0, place) + sign + text.substring(place + 1);
            case 1:
                return text.substring(0, place) + sign + text.substring(place);
            case 2:
                return text.substring(0, place);
            default:
                return text + sign;
        }
    }

    private void write(String text) {
        for (int i = 0; i < text.length(); i += 8) {
            letters(Made.word(text.substring(i, Math.min(text.length(), i + 8))));
        }
    }

    private void letters(long w) {
        is("letters(" + w + ")", x.letters(w), y.letters(w));
    }

    private void texts() {
        if (below(6) != 0) {
            is("blank()", x.blank(), y.blank());
        }
        int sort = below(8) == 0 ? 0 : 1 + below(2);
        write(spoilt(sort == 0 ? cupText() : sort == 1 ? rowText() : riverText()));
        for (int s = 0; s < 3; s++) {
            is("fault(" + s + ")", x.fault(s), y.fault(s));
        }
        if (sort == 0) {
            is("cup()", x.cup(), y.cup());
        } else if (sort == 1) {
            is("row()", x.row(), y.row());
        } else {
            is("river()", x.river(), y.river());
        }
    }

    private void oneCall() {
        int a = about(0, 7);
        int b = about(0, 5);
        int c = about(0, 9);
        int n = below(3) == 0 ? about(1, 100) : about(1, 12);
        int years = below(3) == 0 ? about(0, 99) : about(0, 12);
        int neck = about(1, 99);
        switch (below(40)) {
            case 0, 1, 2 -> texts();
            case 3 -> letters(below(3) == 0 ? draw.nextLong() : Made.word("h7,3*1".substring(below(6))));
            case 4 -> is("blank()", x.blank(), y.blank());
            case 5 -> is("fault(" + b + ")", x.fault(b), y.fault(b));
            case 6 -> is("cupTold(" + b + ")", x.cupTold(b), y.cupTold(b));
            case 7, 8 -> {
                int kind = about(0, 4);
                int many = kind == 0 || kind == 4 ? about(0, 0) : about(1, 20);
                is("doing(" + kind + ", " + many + ")", x.doing(kind, many), y.doing(kind, many));
            }
            case 9 -> is("as(" + a + ", " + b + ")", x.as(a, b), y.as(a, b));
            case 10, 11 -> {
                int stick = about(0, 4);
                is("leaf(" + b + ", " + c + ", " + stick + ")", x.leaf(b, c, stick), y.leaf(b, c, stick));
            }
            case 12, 13 -> is("about(" + a + ", " + b + ")", x.about(a, b), y.about(a, b));
            case 14, 15, 16, 17 -> {
                int d = about(-1, 7);
                is("ticks(" + d + ", " + n + ")", x.ticks(d, n), y.ticks(d, n));
            }
            case 18 -> is("still()", x.still(), y.still());
            case 19 -> is("round(" + b + ", " + a % 5 + ")", x.round(b, a % 5), y.round(b, a % 5));
            case 20 -> is("second(" + b + ")", x.second(b), y.second(b));
            case 21 -> {
                int d = about(-1, 7);
                is("would(" + d + ", " + n + ", " + b + ")", x.would(d, n, b), y.would(d, n, b));
            }
            case 22 -> is("ends(" + b + ", " + a + ")", x.ends(b, a), y.ends(b, a));
            case 23 -> is("lies(" + b + ", " + a + ")", x.lies(b, a), y.lies(b, a));
            case 24 -> {
                int ring = about(0, 5);
                is("line(" + b + ", " + ring + ", " + c + ")", x.line(b, ring, c), y.line(b, ring, c));
            }
            case 25 -> is("want(" + b + ", " + c + ")", x.want(b, c), y.want(b, c));
            case 26 -> is("off(" + b + ")", x.off(b), y.off(b));
            case 27 -> {
                int what = about(0, 2);
                is("found(" + what + ")", x.found(what), y.found(what));
            }
            case 28 -> {
                int ring = about(-1, 5);
                is("seen(" + a + ", " + ring + ")", x.seen(a, ring), y.seen(a, ring));
            }
            case 29 -> is("read()", x.read(), y.read());
            case 30 -> is("tells()", x.tells(), y.tells());
            case 31 -> {
                int other = about(0, 7);
                is("apart(" + b + ", " + a + ", " + other + ")", x.apart(b, a, other), y.apart(b, a, other));
            }
            case 32 -> {
                int ahead = about(-99, 99);
                int behind = below(3) == 0 ? about(-99, 99) : ahead / 2;
                is("picture(" + ahead + ", " + behind + ")", x.picture(ahead, behind), y.picture(ahead, behind));
                is("drag()", x.drag(), y.drag());
            }
            case 33 -> {
                String of = "(" + c + ", " + years + ", " + c + ", " + neck + ")";
                is("point" + of, x.point(c, years, c, neck), y.point(c, years, c, neck));
            }
            case 34 -> {
                String of = "(" + years + ", " + c + ", " + neck + ")";
                is("cuts" + of, x.cuts(years, c, neck), y.cuts(years, c, neck));
            }
            case 35 -> is("firstCut(" + c + ", " + neck + ")", x.firstCut(c, neck), y.firstCut(c, neck));
            case 36 -> {
                String of = "(" + years + ", " + c + ", " + neck + ")";
                is("saves" + of, x.saves(years, c, neck), y.saves(years, c, neck));
            }
            case 37 -> is("image()", x.image(), y.image());
            case 38 -> is("restore()", x.restore(), y.restore());
            default -> {
                int what = about(0, 8);
                is("count(" + what + ")", x.count(what), y.count(what));
            }
        }
    }

    private void go() {
        if (run % 10 != 0) {
            write(cupText());
            is("cup()", x.cup(), y.cup());
        }
        for (int call = 0; call < CALLS / 6; call++) {
            oneCall();
            if (call % 4 == 3) {
                is("digest()", x.digest(), y.digest());
            }
        }
    }

    public static void main(String[] args) {
        Due due = new Due();
        for (int run = 1; run <= RUNS; run++) {
            new OracleTest(due, run).go();
        }
        due.end();
    }
}
