import java.util.ArrayList;
import java.util.Arrays;
import java.util.List;
import java.util.regex.Matcher;
import java.util.regex.Pattern;

/**
 * The document once more, written from its words in another way than the class (texts by patterns,
 * every run from the start, nothing shared), so that a slip in one of them shows as a difference.
 */
final class Oracle {
    private static final int NONE = -1, UNKNOWN = -101, OUTSIDE = -102, STATE = -103, FULL = -104;
    private static final String TICKS = "(?:[1-9]|[1-5][0-9]|60)";
    private static final String SIDE = "(?:0|[1-9][0-9]?)h?";
    private static final Pattern[] SORTS = {
        Pattern.compile("r[2-6]h[2-4]f[0-9]w[0-9]m[0-9]q?"),
        Pattern.compile("[0-7]\\*" + TICKS + "(?:,[0-7]\\*" + TICKS + "){0,5}"),
        Pattern.compile(SIDE + "(?:," + SIDE + "){3,9}"),
    };

    private record Told(int ring, int weight, int stick) {
    }

    private static final class State {
        int[][] rounds;
        List<Integer> places = new ArrayList<>();

        State copy() {
            State s = new State();
            s.rounds = new int[rounds.length][];
            for (int i = 0; i < rounds.length; i++) {
                s.rounds[i] = rounds[i].clone();
            }
            s.places = new ArrayList<>(places);
            return s;
        }
    }

    private String page = "";
    private String cupText = null;
    private String riverText = null;
    private final List<int[]> doings = new ArrayList<>();
    private final List<String> rows = new ArrayList<>();
    private final List<int[]> pictures = new ArrayList<>();
    private List<Told> leaves = new ArrayList<>();
    private List<Integer> seen = new ArrayList<>();
    private int[] want = new int[0];
    private State now = new State();
    private State keptState = null;
    private List<Integer> keptSeen = null;
    private int[] keptWant = null;
    private int cups = 0;
    private int founds = 0;

    int letters(long w) {
        StringBuilder coming = new StringBuilder();
        boolean ended = false;
        for (int i = 0; i < 8; i++) {
            int code = (int) (w >> (8 * i)) & 0xff;
            if (code > 126 || (ended && code != 0)) {
                return OUTSIDE;
            }
            ended |= code == 0;
            if (!ended) {
                coming.append((char) code);
            }
        }
        if (page.length() + coming.length() > 50) {
            return FULL;
        }
        page += coming;
        return page.length();
    }

    int blank() {
        int had = page.length();
        page = "";
        return had;
    }

    int fault(int sort) {
        if (sort < 0 || sort > 2) {
            return OUTSIDE;
        }
        int good = 0;
        while (good < page.length() && mayGoOn(SORTS[sort], page.substring(0, good + 1))) {
            good++;
        }
        return good;
    }

    private static boolean mayGoOn(Pattern sort, String start) {
        Matcher m = sort.matcher(start);
        return m.matches() || m.hitEnd();
    }

    int cup() {
        if (!SORTS[0].matcher(page).matches()) {
            return STATE;
        }
        cupText = page;
        page = "";
        leaves = new ArrayList<>();
        seen = new ArrayList<>();
        want = new int[told(0)];
        now = fromStill(leaves);
        keptState = null;
        cups++;
        return told(0);
    }

    int row() {
        if (!SORTS[1].matcher(page).matches()) {
            return STATE;
        }
        if (rows.size() == 6) {
            return FULL;
        }
        rows.add(page);
        page = "";
        return rows.size() - 1;
    }

    int river() {
        if (!SORTS[2].matcher(page).matches()) {
            return STATE;
        }
        riverText = page;
        page = "";
        return riverText.split(",").length;
    }

    private int told(int what) {
        return what == 5 ? (cupText.endsWith("q") ? 1 : 0) : cupText.charAt(2 * what + 1) - '0';
    }

    int cupTold(int what) {
        return cupText == null ? STATE : what < 0 || what > 5 ? OUTSIDE : told(what);
    }

    int doing(int kind, int n) {
        int[] most = {0, 20, 20, 40, 0};
        if (kind < 0 || kind > 4 || n > most[kind] || n < (most[kind] == 0 ? 0 : 1)) {
            return OUTSIDE;
        }
        if (doings.size() == 8) {
            return FULL;
        }
        doings.add(new int[] {kind, n});
        return doings.size() - 1;
    }

    int as(int doing, int kind) {
        if (doing < 0 || doing >= doings.size()) {
            return UNKNOWN;
        }
        if (kind < 0 || kind > 4) {
            return OUTSIDE;
        }
        String[] kinds = {"0", "01", "012", "03", "04"};
        return kinds[doings.get(doing)[0]].contains("" + kind) ? doing : NONE;
    }

    private boolean noRing(int ring) {
        return cupText == null || ring < 0 || ring >= told(0);
    }

    int leaf(int ring, int weight, int stick) {
        if (noRing(ring)) {
            return UNKNOWN;
        }
        if (weight < 0 || weight > 9 || stick < 0 || stick > 9) {
            return OUTSIDE;
        }
        if (leaves.size() == 8) {
            return FULL;
        }
        leaves.add(new Told(ring, weight, stick));
        seen.add(NONE);
        now.places.add(ring);
        return leaves.size() - 1;
    }

    private boolean noLeaf(int leaf) {
        return leaf < 0 || leaf >= leaves.size();
    }

    int about(int leaf, int what) {
        if (noLeaf(leaf)) {
            return UNKNOWN;
        }
        Told t = leaves.get(leaf);
        return switch (what) {
            case 0 -> now.places.get(leaf);
            case 1 -> t.ring;
            case 2 -> t.weight;
            case 3 -> t.stick;
            case 4 -> pull(now, now.places.get(leaf), t.weight);
            case 5 -> seen.get(leaf);
            default -> OUTSIDE;
        };
    }

    private int secondOf(State s, int ring) {
        int sum = 0;
        int many = 0;
        for (int height = told(1) - 1; height > 0; height--) {
            sum += (int) Math.pow(s.rounds[ring][height], 2);
            many++;
        }
        int mean = sum / many;
        return (mean - (int) Math.pow(s.rounds[ring][0], 2)) / 100;
    }

    private int pull(State s, int ring, int weight) {
        int square = s.rounds[ring][0] * s.rounds[ring][0];
        return secondOf(s, ring) - (weight * square) / 1000;
    }

    private State fromStill(List<Told> tried) {
        State s = new State();
        s.rounds = new int[told(0)][told(1)];
        for (Told t : tried) {
            s.places.add(t.ring);
        }
        return s;
    }

    private void tick(State s, int kind, int n, List<Told> tried) {
        int rings = told(0);
        int heights = told(1);
        for (int ring = 0; ring < rings; ring++) {
            for (int height = 0; height < heights; height++) {
                int round = s.rounds[ring][height];
                if (height > 0 && kind == 1) {
                    round = round + n > 99 ? 99 : round + n;
                }
                if (height > 0 && kind == 2) {
                    round = round - n < -99 ? -99 : round - n;
                }
                if (ring == 0 && kind == 4) {
                    round = round < 0 ? -(-round / 2) : round / 2;
                }
                s.rounds[ring][height] = round;
            }
        }
        int base = kind == 3 ? n : 0;
        for (int ring = 0; ring < rings; ring++) {
            s.rounds[ring][0] = dragged(s.rounds[ring][0], base, told(2));
        }
        int wall = told(3) * (told(5) + 1);
        for (int height = 0; height < heights; height++) {
            s.rounds[rings - 1][height] = dragged(s.rounds[rings - 1][height], base, wall > 10 ? 10 : wall);
        }
        for (int[] ring : s.rounds) {
            for (int height = 0; height < heights - 1; height++) {
                int goes = (ring[height + 1] - ring[height]) * told(4) / 20;
                ring[height] = ring[height] + goes;
                ring[height + 1] = ring[height + 1] - goes;
            }
        }
        for (int leaf = 0; leaf < tried.size(); leaf++) {
            int ring = s.places.get(leaf);
            int pull = pull(s, ring, tried.get(leaf).weight);
            int goes = pull > tried.get(leaf).stick ? -1 : pull < 0 - tried.get(leaf).stick ? 1 : 0;
            s.places.set(leaf, Math.min(rings - 1, Math.max(0, ring + goes)));
        }
    }

    private static int dragged(int round, int base, int tenths) {
        int more = round - base;
        int size = Math.abs(more) * (10 - tenths) / 10;
        return more < 0 ? base - size : base + size;
    }

    private void tickByNumber(State s, int doing, List<Told> tried) {
        int[] rest = {0, 0};
        int[] d = doing >= 0 && doing < doings.size() ? doings.get(doing) : rest;
        tick(s, d[0], d[1], tried);
    }

    private static boolean notTicks(int many) {
        return many < 1 || many > 100;
    }

    int ticks(int doing, int many) {
        if (doing != NONE && (doing < 0 || doing >= doings.size())) {
            return UNKNOWN;
        }
        if (cupText == null) {
            return STATE;
        }
        if (notTicks(many)) {
            return OUTSIDE;
        }
        List<Integer> ahead = new ArrayList<>(now.places);
        for (int i = 0; i < many; i++) {
            tickByNumber(now, doing, leaves);
        }
        int other = 0;
        for (int leaf = 0; leaf < leaves.size(); leaf++) {
            other += ahead.get(leaf).intValue() == now.places.get(leaf).intValue() ? 0 : 1;
        }
        return other;
    }

    int still() {
        if (cupText == null) {
            return STATE;
        }
        now = fromStill(leaves);
        return 1;
    }

    int round(int ring, int height) {
        return noRing(ring) || height < 0 || height >= told(1) ? -1001 : now.rounds[ring][height];
    }

    int second(int ring) {
        return noRing(ring) ? -1001 : secondOf(now, ring);
    }

    int would(int doing, int many, int ring) {
        if (doing < 0 || doing >= doings.size() || noRing(ring)) {
            return -1001;
        }
        if (notTicks(many)) {
            return -1002;
        }
        State s = fromStill(new ArrayList<>());
        for (int i = 0; i < many; i++) {
            tickByNumber(s, doing, new ArrayList<>());
        }
        return secondOf(s, ring);
    }

    private List<Integer> run(String row, List<Told> tried) {
        State s = fromStill(tried);
        for (String item : row.split(",")) {
            String[] both = item.split("\\*");
            for (int i = 0; i < Integer.parseInt(both[1]); i++) {
                tickByNumber(s, Integer.parseInt(both[0]), tried);
            }
        }
        for (int i = 0; i < 60; i++) {
            tickByNumber(s, NONE, tried);
        }
        return s.places;
    }

    private boolean noRow(int row) {
        return row < 0 || row >= rows.size();
    }

    int ends(int row, int leaf) {
        return noRow(row) || noLeaf(leaf) ? UNKNOWN : run(rows.get(row), leaves).get(leaf);
    }

    int lies(int row, int leaf) {
        int ring = ends(row, leaf);
        return ring < 0 ? ring : ring == 0 ? 0 : ring < told(0) - 1 ? 1 : 2;
    }

    int line(int row, int ring, int stick) {
        if (noRow(row) || noRing(ring)) {
            return UNKNOWN;
        }
        if (stick < 0 || stick > 9) {
            return OUTSIDE;
        }
        for (int weight = 0; weight <= 9; weight++) {
            if (run(rows.get(row), List.of(new Told(ring, weight, stick))).get(0) > 0) {
                return weight;
            }
        }
        return NONE;
    }

    int want(int ring, int many) {
        if (noRing(ring)) {
            return UNKNOWN;
        }
        if (many < 0 || many > 8) {
            return OUTSIDE;
        }
        int was = want[ring];
        want[ring] = many;
        return was;
    }

    private int offOf(List<Integer> ends) {
        int[] more = new int[want.length];
        for (int ring : ends) {
            more[ring]++;
        }
        int off = 0;
        for (int ring = 0; ring < want.length; ring++) {
            off += Math.abs(more[ring] - want[ring]);
        }
        return off;
    }

    int off(int row) {
        return noRow(row) ? UNKNOWN : cupText == null ? STATE : offOf(run(rows.get(row), leaves));
    }

    int found(int what) {
        if (cupText == null) {
            return STATE;
        }
        if (what < 0 || what > 2) {
            return OUTSIDE;
        }
        if (founds == 12) {
            return STATE;
        }
        founds++;
        int[] best = null;
        for (int n = 20; n >= 1; n--) {
            for (int t = 20; t >= 1; t--) {
                State s = fromStill(leaves);
                for (int i = 0; i < t + 60; i++) {
                    tick(s, i < t ? 1 : 0, i < t ? n : 0, leaves);
                }
                int off = offOf(s.places);
                if (best == null || off <= best[2]) {
                    best = new int[] {n, t, off};
                }
            }
        }
        return best[what];
    }

    int seen(int leaf, int ring) {
        if (noLeaf(leaf) || (ring != NONE && noRing(ring))) {
            return UNKNOWN;
        }
        return seen.set(leaf, ring);
    }

    int read() {
        if (cupText == null) {
            return STATE;
        }
        int bits = 0;
        for (int row = 0; row < rows.size(); row++) {
            List<Integer> ends = run(rows.get(row), leaves);
            boolean all = true;
            for (int leaf = 0; leaf < leaves.size(); leaf++) {
                all &= seen.get(leaf) == NONE || seen.get(leaf).equals(ends.get(leaf));
            }
            bits += all ? (int) Math.pow(2, row) : 0;
        }
        return bits;
    }

    int tells() {
        if (cupText == null) {
            return STATE;
        }
        int best = NONE;
        long most = -1;
        for (int row = rows.size() - 1; row >= 0; row--) {
            long different = run(rows.get(row), leaves).stream().distinct().count();
            if (different >= most) {
                most = different;
                best = row;
            }
        }
        return best;
    }

    int apart(int row, int a, int b) {
        return noRow(row) || noLeaf(a) || noLeaf(b) ? UNKNOWN : Math.abs(ends(row, a) - ends(row, b));
    }

    int picture(int ahead, int behind) {
        if (Math.abs((long) ahead) > 99 || Math.abs((long) behind) > 99) {
            return OUTSIDE;
        }
        if (pictures.size() == 12) {
            return FULL;
        }
        pictures.add(new int[] {ahead, behind});
        return pictures.size();
    }

    int drag() {
        int best = NONE;
        int least = Integer.MAX_VALUE;
        for (int floor = 9; floor >= 0; floor--) {
            int off = 0;
            for (int[] p : pictures) {
                off += Math.abs(dragged(p[0], 0, floor) - p[1]);
            }
            if (off <= least) {
                least = off;
                best = floor;
            }
        }
        return best;
    }

    private boolean notFlow(int years, int eat, int neck) {
        return years < 0 || years > 99 || eat < 0 || eat > 9 || neck < 1 || neck > 99;
    }

    private boolean isFixed(int point, int more) {
        String[] points = riverText.split(",");
        return point == 0 || point == points.length - 1 || points[point].endsWith("h") || point == more;
    }

    /** Off-sides behind so many years, and behind them how many were cut off each year. */
    private int[] flow(int years, int eat, int neck, int more) {
        String[] points = riverText.split(",");
        int many = points.length;
        int[] flow = new int[many + years];
        for (int i = 0; i < many; i++) {
            flow[i] = Integer.parseInt(points[i].replace("h", ""));
        }
        for (int year = 0; year < years; year++) {
            int[] was = Arrays.copyOf(flow, many);
            for (int i = 0; i < many; i++) {
                if (!isFixed(i, more)) {
                    int to = was[i] + (2 * was[i] - (was[i - 1] + was[i + 1])) * eat / 20;
                    flow[i] = to < 0 ? 0 : to > 99 ? 99 : to;
                }
            }
            for (int i = 0; i < many; i++) {
                if (!isFixed(i, more)) {
                    int low = Math.min(flow[i - 1], flow[i + 1]);
                    int high = Math.max(flow[i - 1], flow[i + 1]);
                    if (flow[i] > high + neck || flow[i] < low - neck) {
                        flow[i] = (low + high) / 2;
                        flow[many + year]++;
                    }
                }
            }
        }
        return flow;
    }

    private int points() {
        return riverText == null ? 0 : riverText.split(",").length;
    }

    private static int cutsIn(int[] flow, int points) {
        int cuts = 0;
        for (int i = points; i < flow.length; i++) {
            cuts += flow[i];
        }
        return cuts;
    }

    int point(int point, int years, int eat, int neck) {
        return point < 0 || point >= points() ? UNKNOWN
            : notFlow(years, eat, neck) ? OUTSIDE : flow(years, eat, neck, NONE)[point];
    }

    int cuts(int years, int eat, int neck) {
        return riverText == null ? STATE
            : notFlow(years, eat, neck) ? OUTSIDE : cutsIn(flow(years, eat, neck, NONE), points());
    }

    int firstCut(int eat, int neck) {
        if (riverText == null) {
            return STATE;
        }
        if (notFlow(0, eat, neck)) {
            return OUTSIDE;
        }
        int[] flow = flow(100, eat, neck, NONE);
        for (int year = 0; year < 100; year++) {
            if (flow[points() + year] > 0) {
                return year;
            }
        }
        return NONE;
    }

    int saves(int years, int eat, int neck) {
        if (riverText == null) {
            return STATE;
        }
        if (notFlow(years, eat, neck)) {
            return OUTSIDE;
        }
        int best = NONE;
        long least = Long.MAX_VALUE;
        for (int p = points() - 1; p >= 0; p--) {
            if (!isFixed(p, NONE)) {
                int[] flow = flow(years, eat, neck, p);
                long size = cutsIn(flow, points()) * 1000000L;
                for (int i = 1; i < points() - 1; i++) {
                    size += Math.abs(2 * flow[i] - flow[i - 1] - flow[i + 1]);
                }
                if (size <= least) {
                    least = size;
                    best = p;
                }
            }
        }
        return best;
    }

    int image() {
        if (cupText == null) {
            return STATE;
        }
        keptState = now.copy();
        keptSeen = new ArrayList<>(seen);
        keptWant = want.clone();
        return leaves.size();
    }

    int restore() {
        if (keptState == null) {
            return STATE;
        }
        State to = keptState.copy();
        for (int leaf = to.places.size(); leaf < leaves.size(); leaf++) {
            to.places.add(now.places.get(leaf));
        }
        now = to;
        for (int leaf = 0; leaf < keptSeen.size(); leaf++) {
            seen.set(leaf, keptSeen.get(leaf));
        }
        want = keptWant.clone();
        return leaves.size();
    }

    int count(int what) {
        int[] counts = {cupText == null ? 0 : told(0), doings.size(), leaves.size(), rows.size(),
            pictures.size(), points(), page.length(), cups, founds};
        return what < 0 || what >= counts.length ? OUTSIDE : counts[what];
    }

    long digest() {
        List<Integer> all = new ArrayList<>();
        if (cupText != null) {
            for (int what = 0; what < 6; what++) {
                all.add(told(what));
            }
            for (int[] ring : now.rounds) {
                for (int round : ring) {
                    all.add(round);
                }
            }
            for (int ring = 0; ring < told(0); ring++) {
                all.add(secondOf(now, ring));
            }
            for (int many : want) {
                all.add(many);
            }
        }
        for (int[] d : doings) {
            all.add(d[0]);
            all.add(d[1]);
        }
        for (int leaf = 0; leaf < leaves.size(); leaf++) {
            for (int what = 0; what < 6; what++) {
                all.add(about(leaf, what));
            }
        }
        for (String row : rows) {
            String[] numbers = row.split("[*,]");
            all.add(numbers.length / 2);
            for (String number : numbers) {
                all.add(Integer.parseInt(number));
            }
            if (cupText != null) {
                all.addAll(run(row, leaves));
            }
        }
        for (int[] p : pictures) {
            all.add(p[0]);
            all.add(p[1]);
        }
        for (int i = 0; i < points(); i++) {
            String text = riverText.split(",")[i];
            all.add(Integer.parseInt(text.replace("h", "")));
            all.add(text.endsWith("h") ? 1 : 0);
        }
        for (char letter : page.toCharArray()) {
            all.add((int) letter);
        }
        for (int what = 0; what < 9; what++) {
            all.add(count(what));
        }
        long h = 443;
        for (int number : all) {
            h = 31 * h + number;
        }
        return h;
    }
}
