/** Leaves in a cup of rings and heights, rows of doings with it, drag pictures, and a river. */
public final class LeavesInCups {
    public static final int NONE = -1, UNKNOWN = -101, OUTSIDE = -102, STATE = -103, FULL = -104;

    private static final int ROUND_UNKNOWN = -1001;
    private static final int ROUND_OUTSIDE = -1002;

    private static final int REST = 0;
    private static final int STIRRED = 1;
    private static final int AGAINST = 2;
    private static final int TURNED = 3;
    private static final int STRAWED = 4;

    private static final int MOST_RINGS = 6;
    private static final int MOST_HEIGHTS = 4;
    private static final int MOST_DOINGS = 8;
    private static final int MOST_LEAVES = 8;
    private static final int MOST_ROWS = 6;
    private static final int MOST_ITEMS = 6;
    private static final int MOST_PICTURES = 12;
    private static final int MOST_POINTS = 10;
    private static final int LEAST_POINTS = 4;
    private static final int MOST_LETTERS = 50;
    private static final int MOST_ROUND = 99;
    private static final int MOST_TICKS = 100;
    private static final int MOST_ITEM_TICKS = 60;
    private static final int LAST_TICKS = 60;
    private static final int WEIGHTS = 10;
    private static final int MOST_FOUND = 20;
    private static final int MOST_FINDINGS = 12;
    private static final int YEARS = 100;
    private static final int MOST_OFF_SIDE = 99;

    /** More than any sum that is looked for the least of. */
    private static final int ABOVE_ALL = 1000000;

    /** A text that is read letter by letter. */
    private abstract static class Text {
        abstract void begin();

        /** Whether the text may go on with this letter; it is taken then. */
        abstract boolean takes(int letter);

        abstract boolean isWhole();

        static int digitOf(int letter) {
            return letter >= '0' && letter <= '9' ? letter - '0' : NONE;
        }

        /** The number with one more digit behind it; NONE: it is above most, or has a 0 ahead. */
        static int longer(int number, int letter, int most) {
            int digit = digitOf(letter);
            if (digit == NONE || number == 0 || number * 10 + digit > most) {
                return NONE;
            }
            return number * 10 + digit;
        }
    }

    private static final class Page {
        private final int[] codes = new int[MOST_LETTERS];
        private int many = 0;

        int append(long word) {
            int coming = lettersIn(word);
            if (coming < 0) {
                return OUTSIDE;
            }
            if (many + coming > MOST_LETTERS) {
                return FULL;
            }
            for (int i = 0; i < coming; i++) {
                codes[many] = byteOf(word, i);
                many++;
            }
            return many;
        }

        /** How many bytes are ahead of the first 0; NONE: the word is no row of letters. */
        private static int lettersIn(long word) {
            int letters = 0;
            for (int i = 0; i < 8; i++) {
                int code = byteOf(word, i);
                if (code > 126 || (code != 0 && letters < i)) {
                    return NONE;
                }
                if (code != 0) {
                    letters++;
                }
            }
            return letters;
        }

        private static int byteOf(long word, int place) {
            return (int) ((word >>> (8 * place)) & 255L);
        }

        int clear() {
            int had = many;
            many = 0;
            return had;
        }

        int firstWrong(Text text) {
            text.begin();
            for (int i = 0; i < many; i++) {
                if (!text.takes(codes[i])) {
                    return i;
                }
            }
            return many;
        }

        boolean reads(Text text) {
            return firstWrong(text) == many && text.isWhole();
        }
    }

    private static final class Cup extends Text {
        private static final String MARKS = "rhfwm";
        private static final int[] LEAST = {2, 2, 0, 0, 0};
        private static final int[] MOST = {6, 4, 9, 9, 9};
        private static final int PAIRS = 5;
        private static final int LETTERS_OF_PAIRS = 2 * PAIRS;

        /** RINGS, HEIGHTS, FLOOR, WALL, MIX, SQUARE; all are 0 as long as no text was read. */
        private final int[] told = new int[PAIRS + 1];
        private int taken = 0;

        void begin() {
            taken = 0;
            for (int i = 0; i <= PAIRS; i++) {
                told[i] = 0;
            }
        }

        boolean takes(int letter) {
            int pair = taken / 2;
            boolean fits;
            if (pair >= PAIRS) {
                fits = taken == LETTERS_OF_PAIRS && letter == 'q';
                told[PAIRS] = fits ? 1 : told[PAIRS];
            } else if (taken % 2 == 0) {
                fits = letter == MARKS.charAt(pair);
            } else {
                int digit = digitOf(letter);
                fits = digit >= LEAST[pair] && digit <= MOST[pair];
                told[pair] = fits ? digit : 0;
            }
            taken += fits ? 1 : 0;
            return fits;
        }

        boolean isWhole() {
            return taken >= LETTERS_OF_PAIRS;
        }

        int rings() {
            return told[0];
        }

        int heights() {
            return told[1];
        }

        int floorTenths() {
            return told[2];
        }

        int wallTenths() {
            return told[5] == 1 ? Math.min(10, 2 * told[3]) : told[3];
        }

        int mixTwentieths() {
            return told[4];
        }

        boolean hasRing(int ring) {
            return ring >= 0 && ring < told[0];
        }

        boolean hasHeight(int height) {
            return height >= 0 && height < told[1];
        }
    }

    private static final class Doing {
        private final int kind;
        private final int n;

        Doing(int kind, int n) {
            this.kind = kind;
            this.n = n;
        }

        static boolean isTold(int kind, int n) {
            switch (kind) {
                case STIRRED:
                case AGAINST:
                    return n >= 1 && n <= 20;
                case TURNED:
                    return n >= 1 && n <= 40;
                case REST:
                case STRAWED:
                    return n == 0;
                default:
                    return false;
            }
        }

        boolean isA(int asked) {
            return asked == REST || asked == kind || (asked == STIRRED && kind == AGAINST);
        }

        int push() {
            return kind == STIRRED ? n : kind == AGAINST ? -n : 0;
        }

        int base() {
            return kind == TURNED ? n : 0;
        }
    }

    private static final class Leaves {
        private final int[] told;
        private final int[] weight;
        private final int[] stick;
        private final int[] seen;
        private int many = 0;

        Leaves(int most) {
            told = new int[most];
            weight = new int[most];
            stick = new int[most];
            seen = new int[most];
        }

        boolean has(int leaf) {
            return leaf >= 0 && leaf < many;
        }

        /** Its number; FULL: there is no place for it. */
        int add(int ring, int itsWeight, int itsStick) {
            if (many >= told.length) {
                return FULL;
            }
            told[many] = ring;
            weight[many] = itsWeight;
            stick[many] = itsStick;
            seen[many] = NONE;
            many++;
            return many - 1;
        }

        void clear() {
            many = 0;
        }
    }

    /** Water and where leaves lie in it, now or in a trial. */
    private static final class Brew {
        private final int[][] rounds = new int[MOST_RINGS][MOST_HEIGHTS];
        private final int[] lying = new int[WEIGHTS];

        void calm(Leaves leaves) {
            for (int ring = 0; ring < MOST_RINGS; ring++) {
                for (int height = 0; height < MOST_HEIGHTS; height++) {
                    rounds[ring][height] = 0;
                }
            }
            for (int leaf = 0; leaf < leaves.many; leaf++) {
                lying[leaf] = leaves.told[leaf];
            }
        }

        void copyFrom(Brew other, int leaves) {
            for (int ring = 0; ring < MOST_RINGS; ring++) {
                for (int height = 0; height < MOST_HEIGHTS; height++) {
                    rounds[ring][height] = other.rounds[ring][height];
                }
            }
            for (int leaf = 0; leaf < leaves && leaf < WEIGHTS; leaf++) {
                lying[leaf] = other.lying[leaf];
            }
        }

        void doTicks(Cup cup, Leaves leaves, Doing doing, int many) {
            for (int i = 0; i < many; i++) {
                move(cup, doing);
                slow(cup, doing.base());
                blend(cup);
                pullAll(cup, leaves);
            }
        }

        private void move(Cup cup, Doing doing) {
            int push = doing.push();
            for (int ring = 0; ring < cup.rings() && push != 0; ring++) {
                for (int height = 1; height < cup.heights(); height++) {
                    int pushed = rounds[ring][height] + push;
                    rounds[ring][height] = Math.max(-MOST_ROUND, Math.min(MOST_ROUND, pushed));
                }
            }
            for (int height = 0; height < cup.heights() && doing.kind == STRAWED; height++) {
                rounds[0][height] /= 2;
            }
        }

        private void slow(Cup cup, int base) {
            int floor = cup.floorTenths();
            for (int ring = 0; ring < cup.rings(); ring++) {
                rounds[ring][0] = base + left(rounds[ring][0] - base, floor);
            }
            int last = cup.rings() - 1;
            int wall = cup.wallTenths();
            for (int height = 0; height < cup.heights() && last >= 0; height++) {
                rounds[last][height] = base + left(rounds[last][height] - base, wall);
            }
        }

        /** What is left of a size that is dragged by so many tenths. */
        static int left(int size, int tenths) {
            return size * (10 - tenths) / 10;
        }

        private void blend(Cup cup) {
            int mix = cup.mixTwentieths();
            int top = cup.heights() - 1;
            for (int ring = 0; ring < cup.rings(); ring++) {
                for (int height = 0; height < top; height++) {
                    int more = rounds[ring][height + 1] - rounds[ring][height];
                    int goes = more * mix / 20;
                    rounds[ring][height] += goes;
                    rounds[ring][height + 1] -= goes;
                }
            }
        }

        private void pullAll(Cup cup, Leaves leaves) {
            for (int leaf = 0; leaf < leaves.many; leaf++) {
                int pull = pullOf(cup, leaves, leaf);
                if (pull > leaves.stick[leaf] && lying[leaf] > 0) {
                    lying[leaf]--;
                } else if (pull < -leaves.stick[leaf] && lying[leaf] < cup.rings() - 1) {
                    lying[leaf]++;
                }
            }
        }

        int pullOf(Cup cup, Leaves leaves, int leaf) {
            int ring = lying[leaf];
            if (!cup.hasRing(ring)) {
                return 0;
            }
            int floor = rounds[ring][0];
            return secondTurning(ring, cup.heights()) - leaves.weight[leaf] * floor * floor / 1000;
        }

        int secondTurning(int ring, int heights) {
            int above = heights - 1;
            if (above < 1 || heights > MOST_HEIGHTS || ring < 0 || ring >= MOST_RINGS) {
                return 0;
            }
            int squares = 0;
            for (int height = 1; height <= above; height++) {
                squares += rounds[ring][height] * rounds[ring][height];
            }
            int floor = rounds[ring][0];
            return (squares / above - floor * floor) / 100;
        }

        int lyingIn(int ring, Leaves leaves) {
            int there = 0;
            for (int leaf = 0; leaf < leaves.many; leaf++) {
                there += lying[leaf] == ring ? 1 : 0;
            }
            return there;
        }
    }

    private static final class Row extends Text {
        private static final int AT_DOING = 0;
        private static final int AT_STAR = 1;
        private static final int AT_FIRST_DIGIT = 2;
        private static final int AT_MORE = 3;

        private final int[] doing = new int[MOST_ITEMS];
        private final int[] ticking = new int[MOST_ITEMS];
        private int items = 0;
        private int at = AT_DOING;

        void begin() {
            items = 0;
            at = AT_DOING;
        }

        boolean takes(int letter) {
            switch (at) {
                case AT_DOING:
                    return takesDoing(digitOf(letter));
                case AT_STAR:
                    at = letter == '*' ? AT_FIRST_DIGIT : AT_STAR;
                    return letter == '*';
                case AT_FIRST_DIGIT:
                    return takesFirstDigit(digitOf(letter));
                default:
                    return takesMore(letter);
            }
        }

        private boolean takesDoing(int digit) {
            if (digit < 0 || digit >= MOST_DOINGS || items >= MOST_ITEMS) {
                return false;
            }
            doing[items] = digit;
            ticking[items] = 0;
            items++;
            at = AT_STAR;
            return true;
        }

        private boolean takesFirstDigit(int digit) {
            if (digit < 1 || items < 1) {
                return false;
            }
            ticking[items - 1] = digit;
            at = AT_MORE;
            return true;
        }

        private boolean takesMore(int letter) {
            if (items < 1) {
                return false;
            }
            if (letter == ',') {
                at = items < MOST_ITEMS ? AT_DOING : AT_MORE;
                return items < MOST_ITEMS;
            }
            int number = longer(ticking[items - 1], letter, MOST_ITEM_TICKS);
            if (number == NONE) {
                return false;
            }
            ticking[items - 1] = number;
            return true;
        }

        boolean isWhole() {
            return at == AT_MORE;
        }
    }

    private static final class River extends Text {
        private static final int AT_FIRST_DIGIT = 0;
        private static final int AT_MORE = 1;
        private static final int BEHIND_HELD = 2;

        private final int[] told = new int[MOST_POINTS];
        private final boolean[] held = new boolean[MOST_POINTS];
        private final int[] now = new int[MOST_POINTS];
        private final int[] before = new int[MOST_POINTS];
        private int points = 0;
        private int at = AT_FIRST_DIGIT;

        void begin() {
            points = 0;
            at = AT_FIRST_DIGIT;
        }

        boolean takes(int letter) {
            if (at == AT_FIRST_DIGIT) {
                return takesFirstDigit(digitOf(letter));
            }
            if (letter == ',') {
                at = points < MOST_POINTS ? AT_FIRST_DIGIT : at;
                return points < MOST_POINTS;
            }
            return at == AT_MORE && points > 0 && takesMore(letter);
        }

        private boolean takesFirstDigit(int digit) {
            if (digit == NONE || points >= MOST_POINTS) {
                return false;
            }
            told[points] = digit;
            held[points] = false;
            points++;
            at = AT_MORE;
            return true;
        }

        private boolean takesMore(int letter) {
            if (letter == 'h') {
                held[points - 1] = true;
                at = BEHIND_HELD;
                return true;
            }
            int number = longer(told[points - 1], letter, MOST_OFF_SIDE);
            if (number == NONE) {
                return false;
            }
            told[points - 1] = number;
            return true;
        }

        boolean isWhole() {
            return at != AT_FIRST_DIGIT && points >= LEAST_POINTS;
        }

        boolean has(int point) {
            return point >= 0 && point < points;
        }

        boolean isFree(int point) {
            return point > 0 && point < points - 1 && !held[point];
        }

        void beginYears() {
            for (int point = 0; point < points; point++) {
                now[point] = told[point];
            }
        }

        /** How many are cut off in one year; one more point (or NONE) is held. */
        int goYear(int eat, int neck, int holding) {
            for (int point = 0; point < points; point++) {
                before[point] = now[point];
            }
            for (int point = 1; point < points - 1; point++) {
                if (isFree(point) && point != holding) {
                    int aside = before[point] + bendOf(before, point) * eat / 20;
                    now[point] = Math.max(0, Math.min(MOST_OFF_SIDE, aside));
                }
            }
            int cut = 0;
            for (int point = 1; point < points - 1; point++) {
                if (isFree(point) && point != holding && isOverNeck(point, neck)) {
                    now[point] = (now[point - 1] + now[point + 1]) / 2;
                    cut++;
                }
            }
            return cut;
        }

        int goYears(int years, int eat, int neck, int holding) {
            beginYears();
            int cut = 0;
            for (int year = 0; year < years; year++) {
                cut += goYear(eat, neck, holding);
            }
            return cut;
        }

        private boolean isOverNeck(int point, int neck) {
            int offOne = now[point] - now[point - 1];
            int offOther = now[point] - now[point + 1];
            return (offOne > neck && offOther > neck) || (offOne < -neck && offOther < -neck);
        }

        private static int bendOf(int[] offSides, int point) {
            return 2 * offSides[point] - offSides[point - 1] - offSides[point + 1];
        }

        int bendsTogether() {
            int sizes = 0;
            for (int point = 1; point < points - 1; point++) {
                sizes += Math.abs(bendOf(now, point));
            }
            return sizes;
        }
    }

    private static final class Image {
        private final Brew brew = new Brew();
        private final int[] wanted = new int[MOST_RINGS];
        private final int[] seen = new int[MOST_LEAVES];
        private int leavesThen = NONE;

        boolean isKept() {
            return leavesThen != NONE;
        }

        void drop() {
            leavesThen = NONE;
        }

        void keep(Brew now, int[] wantedNow, Leaves leaves) {
            leavesThen = Math.min(leaves.many, MOST_LEAVES);
            brew.copyFrom(now, leavesThen);
            for (int ring = 0; ring < MOST_RINGS; ring++) {
                wanted[ring] = wantedNow[ring];
            }
            for (int leaf = 0; leaf < leavesThen; leaf++) {
                seen[leaf] = leaves.seen[leaf];
            }
        }

        /** Leaves that came since stay as they are. */
        void bringBack(Brew now, int[] wantedNow, Leaves leaves) {
            now.copyFrom(brew, leavesThen);
            for (int ring = 0; ring < MOST_RINGS; ring++) {
                wantedNow[ring] = wanted[ring];
            }
            for (int leaf = 0; leaf < leavesThen && leaf < leaves.many; leaf++) {
                leaves.seen[leaf] = seen[leaf];
            }
        }
    }

    private static final class Pictures {
        private final int[] ahead = new int[MOST_PICTURES];
        private final int[] behind = new int[MOST_PICTURES];
        private int many = 0;

        /** How many there are then; FULL: there is no place for it. */
        int add(int itsAhead, int itsBehind) {
            if (many >= MOST_PICTURES) {
                return FULL;
            }
            ahead[many] = itsAhead;
            behind[many] = itsBehind;
            many++;
            return many;
        }

        /** By a floor, how far what it leaves is off, all sizes together. */
        int offBy(int floor) {
            int sizes = 0;
            for (int i = 0; i < many; i++) {
                sizes += Math.abs(Brew.left(ahead[i], floor) - behind[i]);
            }
            return sizes;
        }

        int bestFloor() {
            int best = 0;
            int least = ABOVE_ALL;
            for (int floor = 0; floor <= 9; floor++) {
                int sizes = offBy(floor);
                if (sizes < least) {
                    least = sizes;
                    best = floor;
                }
            }
            return best;
        }
    }

    private final Page page = new Page();
    private final Doing resting = new Doing(REST, 0);
    private final Doing[] doings = new Doing[MOST_DOINGS];
    private int doingCount = 0;

    /** The one that counts, and one to read the page into, so that a text that fails changes nothing. */
    private Cup theCup = new Cup();
    private Cup triedCup = new Cup();
    private int cupsRead = 0;
    private River theRiver = new River();
    private River triedRiver = new River();
    private final Row[] rows = new Row[MOST_ROWS];
    private Row triedRow = new Row();
    private int rowCount = 0;

    private final Leaves leaves = new Leaves(MOST_LEAVES);
    private final Leaves weighed = new Leaves(WEIGHTS);
    private final Brew brew = new Brew();
    private final Brew trial = new Brew();
    private final Image kept = new Image();
    private final int[] wanted = new int[MOST_RINGS];
    private int findings = 0;

    private final Pictures pictures = new Pictures();

    /** Every place of a row is filled from the start, so that none is ever found empty. */
    public LeavesInCups() {
        for (int i = 0; i < MOST_DOINGS; i++) {
            doings[i] = resting;
        }
        for (int i = 0; i < MOST_ROWS; i++) {
            rows[i] = new Row();
        }
    }

    // ---- texts

    public int letters(long w) {
        return page.append(w);
    }

    public int blank() {
        return page.clear();
    }

    public int fault(int sort) {
        switch (sort) {
            case 0:
                return page.firstWrong(triedCup);
            case 1:
                return page.firstWrong(triedRow);
            case 2:
                return page.firstWrong(triedRiver);
            default:
                return OUTSIDE;
        }
    }

    public int cup() {
        if (!page.reads(triedCup)) {
            return STATE;
        }
        Cup gone = theCup;
        theCup = triedCup;
        triedCup = gone;
        cupsRead++;
        page.clear();
        leaves.clear();
        brew.calm(leaves);
        kept.drop();
        for (int ring = 0; ring < MOST_RINGS; ring++) {
            wanted[ring] = 0;
        }
        return theCup.rings();
    }

    public int row() {
        if (!page.reads(triedRow)) {
            return STATE;
        }
        if (rowCount >= MOST_ROWS) {
            return FULL;
        }
        Row empty = rows[rowCount];
        rows[rowCount] = triedRow;
        triedRow = empty;
        rowCount++;
        page.clear();
        return rowCount - 1;
    }

    public int river() {
        if (!page.reads(triedRiver)) {
            return STATE;
        }
        River gone = theRiver;
        theRiver = triedRiver;
        triedRiver = gone;
        page.clear();
        return theRiver.points;
    }

    public int cupTold(int what) {
        if (!hasCup()) {
            return STATE;
        }
        return isWithin(what, 0, 5) ? theCup.told[what] : OUTSIDE;
    }

    // ---- doings, leaves

    public int doing(int kind, int n) {
        if (!Doing.isTold(kind, n)) {
            return OUTSIDE;
        }
        if (doingCount >= MOST_DOINGS) {
            return FULL;
        }
        doings[doingCount] = new Doing(kind, n);
        doingCount++;
        return doingCount - 1;
    }

    public int as(int doing, int kind) {
        if (!hasDoing(doing)) {
            return UNKNOWN;
        }
        if (!isWithin(kind, REST, STRAWED)) {
            return OUTSIDE;
        }
        return doingOrRest(doing).isA(kind) ? doing : NONE;
    }

    public int leaf(int ring, int weight, int stick) {
        if (!theCup.hasRing(ring)) {
            return UNKNOWN;
        }
        if (!isWithin(weight, 0, 9) || !isWithin(stick, 0, 9)) {
            return OUTSIDE;
        }
        int number = leaves.add(ring, weight, stick);
        if (leaves.has(number)) {
            brew.lying[number] = ring;
        }
        return number;
    }

    public int about(int leaf, int what) {
        if (!leaves.has(leaf)) {
            return UNKNOWN;
        }
        switch (what) {
            case 0:
                return brew.lying[leaf];
            case 1:
                return leaves.told[leaf];
            case 2:
                return leaves.weight[leaf];
            case 3:
                return leaves.stick[leaf];
            case 4:
                return brew.pullOf(theCup, leaves, leaf);
            case 5:
                return leaves.seen[leaf];
            default:
                return OUTSIDE;
        }
    }

    // ---- ticks

    public int ticks(int doing, int many) {
        if (doing != NONE && !hasDoing(doing)) {
            return UNKNOWN;
        }
        if (!hasCup()) {
            return STATE;
        }
        if (!isWithin(many, 1, MOST_TICKS)) {
            return OUTSIDE;
        }
        trial.copyFrom(brew, leaves.many);
        brew.doTicks(theCup, leaves, doingOrRest(doing), many);
        int moved = 0;
        for (int leaf = 0; leaf < leaves.many; leaf++) {
            moved += brew.lying[leaf] != trial.lying[leaf] ? 1 : 0;
        }
        return moved;
    }

    public int still() {
        if (!hasCup()) {
            return STATE;
        }
        brew.calm(leaves);
        return 1;
    }

    public int round(int ring, int height) {
        if (!theCup.hasRing(ring) || !theCup.hasHeight(height)) {
            return ROUND_UNKNOWN;
        }
        return brew.rounds[ring][height];
    }

    public int second(int ring) {
        return theCup.hasRing(ring) ? brew.secondTurning(ring, theCup.heights()) : ROUND_UNKNOWN;
    }

    public int would(int doing, int many, int ring) {
        if (!hasDoing(doing) || !theCup.hasRing(ring)) {
            return ROUND_UNKNOWN;
        }
        if (!isWithin(many, 1, MOST_TICKS)) {
            return ROUND_OUTSIDE;
        }
        trial.calm(leaves);
        trial.doTicks(theCup, leaves, doingOrRest(doing), many);
        return trial.secondTurning(ring, theCup.heights());
    }

    // ---- rows

    public int ends(int row, int leaf) {
        if (!hasRow(row) || !leaves.has(leaf)) {
            return UNKNOWN;
        }
        tryRow(rows[row], leaves);
        return trial.lying[leaf];
    }

    public int lies(int row, int leaf) {
        if (!hasRow(row) || !leaves.has(leaf)) {
            return UNKNOWN;
        }
        tryRow(rows[row], leaves);
        int ring = trial.lying[leaf];
        return ring == 0 ? 0 : ring == theCup.rings() - 1 ? 2 : 1;
    }

    public int line(int row, int ring, int stick) {
        if (!hasRow(row) || !theCup.hasRing(ring)) {
            return UNKNOWN;
        }
        if (!isWithin(stick, 0, 9)) {
            return OUTSIDE;
        }
        weighed.clear();
        for (int weight = 0; weight < WEIGHTS; weight++) {
            weighed.add(ring, weight, stick);
        }
        tryRow(rows[row], weighed);
        for (int weight = 0; weight < WEIGHTS; weight++) {
            if (trial.lying[weight] != 0) {
                return weight;
            }
        }
        return NONE;
    }

    public int want(int ring, int many) {
        if (!theCup.hasRing(ring)) {
            return UNKNOWN;
        }
        if (!isWithin(many, 0, MOST_LEAVES)) {
            return OUTSIDE;
        }
        int was = wanted[ring];
        wanted[ring] = many;
        return was;
    }

    public int off(int row) {
        if (!hasRow(row)) {
            return UNKNOWN;
        }
        if (!hasCup()) {
            return STATE;
        }
        tryRow(rows[row], leaves);
        return offInTrial();
    }

    public int found(int what) {
        if (!hasCup()) {
            return STATE;
        }
        if (!isWithin(what, 0, 2)) {
            return OUTSIDE;
        }
        if (findings >= MOST_FINDINGS) {
            return STATE;
        }
        findings++;
        int bestN = 0;
        int bestTicks = 0;
        int leastOff = ABOVE_ALL;
        for (int n = 1; n <= MOST_FOUND; n++) {
            Doing stirring = new Doing(STIRRED, n);
            for (int many = 1; many <= MOST_FOUND; many++) {
                int itsOff = offOfStirring(stirring, many);
                if (itsOff < leastOff) {
                    leastOff = itsOff;
                    bestN = n;
                    bestTicks = many;
                }
            }
        }
        return what == 0 ? bestN : what == 1 ? bestTicks : leastOff;
    }

    public int seen(int leaf, int ring) {
        if (!leaves.has(leaf) || (ring != NONE && !theCup.hasRing(ring))) {
            return UNKNOWN;
        }
        int was = leaves.seen[leaf];
        leaves.seen[leaf] = ring;
        return was;
    }

    public int read() {
        if (!hasCup()) {
            return STATE;
        }
        int bits = 0;
        for (int row = 0; row < rowCount; row++) {
            tryRow(rows[row], leaves);
            bits |= isTrialAsSeen() ? 1 << row : 0;
        }
        return bits;
    }

    public int tells() {
        if (!hasCup()) {
            return STATE;
        }
        int best = NONE;
        int mostRings = NONE;
        for (int row = 0; row < rowCount; row++) {
            tryRow(rows[row], leaves);
            int rings = ringsInTrial();
            if (rings > mostRings) {
                mostRings = rings;
                best = row;
            }
        }
        return best;
    }

    public int apart(int row, int a, int b) {
        if (!hasRow(row) || !leaves.has(a) || !leaves.has(b)) {
            return UNKNOWN;
        }
        tryRow(rows[row], leaves);
        return Math.abs(trial.lying[a] - trial.lying[b]);
    }

    public int picture(int ahead, int behind) {
        if (!isWithin(ahead, -MOST_ROUND, MOST_ROUND) || !isWithin(behind, -MOST_ROUND, MOST_ROUND)) {
            return OUTSIDE;
        }
        return pictures.add(ahead, behind);
    }

    public int drag() {
        return pictures.bestFloor();
    }

    // ---- the river

    public int point(int point, int years, int eat, int neck) {
        if (!theRiver.has(point)) {
            return UNKNOWN;
        }
        if (!isYears(years) || !isFlow(eat, neck)) {
            return OUTSIDE;
        }
        theRiver.goYears(years, eat, neck, NONE);
        return theRiver.now[point];
    }

    public int cuts(int years, int eat, int neck) {
        if (!hasRiver()) {
            return STATE;
        }
        if (!isYears(years) || !isFlow(eat, neck)) {
            return OUTSIDE;
        }
        return theRiver.goYears(years, eat, neck, NONE);
    }

    public int firstCut(int eat, int neck) {
        if (!hasRiver()) {
            return STATE;
        }
        if (!isFlow(eat, neck)) {
            return OUTSIDE;
        }
        theRiver.beginYears();
        for (int year = 0; year < YEARS; year++) {
            if (theRiver.goYear(eat, neck, NONE) > 0) {
                return year;
            }
        }
        return NONE;
    }

    public int saves(int years, int eat, int neck) {
        if (!hasRiver()) {
            return STATE;
        }
        if (!isYears(years) || !isFlow(eat, neck)) {
            return OUTSIDE;
        }
        int best = NONE;
        int fewest = ABOVE_ALL;
        int leastBends = ABOVE_ALL;
        for (int point = 0; point < theRiver.points; point++) {
            if (theRiver.isFree(point)) {
                int cut = theRiver.goYears(years, eat, neck, point);
                int bends = theRiver.bendsTogether();
                if (cut < fewest || (cut == fewest && bends < leastBends)) {
                    fewest = cut;
                    leastBends = bends;
                    best = point;
                }
            }
        }
        return best;
    }

    // ---- what is told of all

    public int image() {
        if (!hasCup()) {
            return STATE;
        }
        kept.keep(brew, wanted, leaves);
        return leaves.many;
    }

    public int restore() {
        if (!kept.isKept()) {
            return STATE;
        }
        kept.bringBack(brew, wanted, leaves);
        return leaves.many;
    }

    public int count(int what) {
        switch (what) {
            case 0:
                return theCup.rings();
            case 1:
                return doingCount;
            case 2:
                return leaves.many;
            case 3:
                return rowCount;
            case 4:
                return pictures.many;
            case 5:
                return theRiver.points;
            case 6:
                return page.many;
            case 7:
                return cupsRead;
            case 8:
                return findings;
            default:
                return OUTSIDE;
        }
    }

    public long digest() {
        long h = 443;
        h = withCup(h);
        h = withDoings(h);
        h = withLeaves(h);
        h = withRows(h);
        h = withPictures(h);
        h = withRiver(h);
        for (int i = 0; i < page.many; i++) {
            h = 31 * h + page.codes[i];
        }
        for (int what = 0; what <= 8; what++) {
            h = 31 * h + count(what);
        }
        return h;
    }

    private long withCup(long ahead) {
        long h = ahead;
        if (!hasCup()) {
            return h;
        }
        for (int what = 0; what <= 5; what++) {
            h = 31 * h + theCup.told[what];
        }
        for (int ring = 0; ring < theCup.rings(); ring++) {
            for (int height = 0; height < theCup.heights(); height++) {
                h = 31 * h + brew.rounds[ring][height];
            }
        }
        for (int ring = 0; ring < theCup.rings(); ring++) {
            h = 31 * h + brew.secondTurning(ring, theCup.heights());
        }
        for (int ring = 0; ring < theCup.rings(); ring++) {
            h = 31 * h + wanted[ring];
        }
        return h;
    }

    private long withDoings(long ahead) {
        long h = ahead;
        for (int i = 0; i < doingCount; i++) {
            h = 31 * h + doingOrRest(i).kind;
            h = 31 * h + doingOrRest(i).n;
        }
        return h;
    }

    private long withLeaves(long ahead) {
        long h = ahead;
        for (int leaf = 0; leaf < leaves.many; leaf++) {
            for (int what = 0; what <= 5; what++) {
                h = 31 * h + about(leaf, what);
            }
        }
        return h;
    }

    private long withRows(long ahead) {
        long h = ahead;
        for (int i = 0; i < rowCount; i++) {
            Row told = rows[i];
            h = 31 * h + told.items;
            for (int item = 0; item < told.items; item++) {
                h = 31 * h + told.doing[item];
                h = 31 * h + told.ticking[item];
            }
            if (leaves.many > 0) {
                tryRow(told, leaves);
            }
            for (int leaf = 0; leaf < leaves.many; leaf++) {
                h = 31 * h + trial.lying[leaf];
            }
        }
        return h;
    }

    private long withPictures(long ahead) {
        long h = ahead;
        for (int i = 0; i < pictures.many; i++) {
            h = 31 * h + pictures.ahead[i];
            h = 31 * h + pictures.behind[i];
        }
        return h;
    }

    private long withRiver(long ahead) {
        long h = ahead;
        for (int point = 0; point < theRiver.points; point++) {
            h = 31 * h + theRiver.told[point];
            h = 31 * h + (theRiver.held[point] ? 1 : 0);
        }
        return h;
    }

    // ---- what the calls share

    private static boolean isWithin(int number, int least, int most) {
        return number >= least && number <= most;
    }

    private static boolean isYears(int years) {
        return isWithin(years, 0, YEARS - 1);
    }

    private static boolean isFlow(int eat, int neck) {
        return isWithin(eat, 0, 9) && isWithin(neck, 1, 99);
    }

    private boolean hasCup() {
        return theCup.rings() > 0;
    }

    private boolean hasRiver() {
        return theRiver.points > 0;
    }

    private boolean hasDoing(int number) {
        return number >= 0 && number < doingCount;
    }

    private boolean hasRow(int number) {
        return number >= 0 && number < rowCount;
    }

    private Doing doingOrRest(int number) {
        return hasDoing(number) ? doings[number] : resting;
    }

    /** Behind it the trial holds where these leaves end by the row. */
    private void tryRow(Row told, Leaves tried) {
        trial.calm(tried);
        for (int item = 0; item < told.items; item++) {
            trial.doTicks(theCup, tried, doingOrRest(told.doing[item]), told.ticking[item]);
        }
        trial.doTicks(theCup, tried, resting, LAST_TICKS);
    }

    private int offOfStirring(Doing stirring, int many) {
        trial.calm(leaves);
        trial.doTicks(theCup, leaves, stirring, many);
        trial.doTicks(theCup, leaves, resting, LAST_TICKS);
        return offInTrial();
    }

    private int offInTrial() {
        int together = 0;
        for (int ring = 0; ring < theCup.rings(); ring++) {
            together += Math.abs(trial.lyingIn(ring, leaves) - wanted[ring]);
        }
        return together;
    }

    private int ringsInTrial() {
        int different = 0;
        for (int ring = 0; ring < theCup.rings(); ring++) {
            different += trial.lyingIn(ring, leaves) > 0 ? 1 : 0;
        }
        return different;
    }

    private boolean isTrialAsSeen() {
        for (int leaf = 0; leaf < leaves.many; leaf++) {
            if (leaves.seen[leaf] != NONE && leaves.seen[leaf] != trial.lying[leaf]) {
                return false;
            }
        }
        return true;
    }
}
