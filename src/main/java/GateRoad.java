import java.util.Arrays;

/** Carts of sorts, two gates, roads to them, tolls by the minute, and ways to go through: see the document. */
public final class GateRoad {
    public static final int NONE = -1, BAD = -2, STATE = -3, FULL = -4;
    public static final long NO = -4611686018427387904L;

    private static final int MINUTES = 24, GATES = 2, SORTS = 4, CARTS = 16, WAYS = 8, TEXTS = 6, SHEETS = 4;
    private static final int STAY = 48, KINDS = 6, MOST_CELLS = 40, CELLS_OF_A_RATE = 4;
    private static final int MOST_RATE = 9, MOST_TOLL = 99, MOST_STAYING = 999, MOST_ROAD = 9, MOST_TOLD_RATES = 10;
    private static final int NEVER = -1, NEVER_PASSES = 5000, WAIT_OF_THE_STRANDED = 24;
    private static final int MOST_MOVES = 8, MOST_FINEST_TOLL = 7, MOST_FINEST_MOVES = 1, TENTHS = 10;
    private static final int NOT_THERE = -5, NOT_SO = -7, NO_COST = -10000, NO_SUCH_WHAT = -10001, FAULTS = -100;
    private static final int NOTHING = -11, OUTSIDE = -12, UNLIKE = -13, BELOW = -14;

    private final Line crowd = new Line();
    private final Road road = crowd.road;
    private final Way[] ways = new Way[WAYS];
    private int wayCount = 0;
    private final Reader reader = new Reader();
    private final Text[] texts = new Text[TEXTS];
    private int textCount = 1;
    private int rule = 0;
    private final Sheet[] sheets = new Sheet[SHEETS];
    private final Road kept = new Road();
    private boolean isKept = false;
    private int keptSorts = 0;
    private int keptWays = 0;
    private int keptRule = 0;
    private final int[] aside = new int[CARTS];
    private int betterChoice = NONE;
    private int betterBy = 0;

    public GateRoad() {
        texts[0] = new Text(Text.FIRST_COST, Text.FIRST_LOST);
        for (int s = 0; s < SHEETS; s++) {
            sheets[s] = new Sheet();
        }
    }

    // ---- gates, sorts, carts

    public int rate(int g, int from, int to, int n) {
        if (!isGate(g) || !isMinute(from)) {
            return NONE;
        }
        if (to <= from || to > MINUTES || !within(n, MOST_RATE)) {
            return BAD;
        }
        int was = road.rates[g][from];
        for (int t = from; t < to; t++) {
            road.rates[g][t] = n;
        }
        return was;
    }

    public int toll(int g, int t, int v) {
        if (!isGate(g) || !isMinute(t)) {
            return NONE;
        }
        if (!within(v, MOST_TOLL)) {
            return BAD;
        }
        int was = road.tolls[g][t];
        road.tolls[g][t] = v;
        return was;
    }

    public int sort(int wished, int stays, int first, int second) {
        if (!isMinute(wished) || !within(stays, MOST_STAYING)) {
            return BAD;
        }
        if (!within(first, MOST_ROAD) || !within(second, MOST_ROAD)) {
            return BAD;
        }
        if (road.sorts >= SORTS) {
            return FULL;
        }
        int s = road.sorts;
        road.wished[s] = wished;
        road.stays[s] = stays;
        road.lengths[0][s] = first;
        road.lengths[1][s] = second;
        road.sorts = s + 1;
        return s;
    }

    public int cart(int s) {
        if (!isSort(s)) {
            return NONE;
        }
        if (road.carts >= CARTS) {
            return FULL;
        }
        int c = road.carts;
        road.sortOf[c] = s;
        road.carts = c + 1;
        return c;
    }

    public int wishes(int s, int wished) {
        if (!isSort(s)) {
            return NOT_THERE;
        }
        if (!isMinute(wished)) {
            return NOT_SO;
        }
        int was = road.wished[s];
        road.wished[s] = wished;
        return was;
    }

    public int gateTold(int g, int t, int what) {
        if (!isGate(g) || !isMinute(t)) {
            return NOT_THERE;
        }
        switch (what) {
            case 0: return road.rates[g][t];
            case 1: return road.tolls[g][t];
            default: return NOT_SO;
        }
    }

    public int sortTold(int s, int what) {
        if (!isSort(s)) {
            return NOT_THERE;
        }
        switch (what) {
            case 0: return road.wished[s];
            case 1: return road.stays[s];
            case 2: return road.lengths[0][s];
            case 3: return road.lengths[1][s];
            default: return NOT_SO;
        }
    }

    // ---- rules

    public int feed(long w, int n) {
        if (n < 1 || n > 8) {
            return BAD;
        }
        return reader.append(w, n) ? reader.size : FULL;
    }

    public int text() {
        if (textCount >= TEXTS) {
            return FULL;
        }
        Text made = reader.readTape();
        if (made == null) {
            return FAULTS - reader.fault;
        }
        texts[textCount] = made;
        textCount++;
        return textCount - 1;
    }

    public int force(int t) {
        if (t < 0 || t >= textCount) {
            return BAD;
        }
        int was = rule;
        rule = t;
        return was;
    }

    // ---- ways

    public int way(int kind, int s) {
        if (!within(kind, KINDS - 1) || !isSheet(s)) {
            return BAD;
        }
        Sheet sheet = sheets[s];
        if (sheet.isMissing()) {
            return NOTHING;
        }
        if (sheet.size != road.carts || !holdsChoices(sheet)) {
            return BAD;
        }
        if (wayCount >= WAYS) {
            return FULL;
        }
        Way made = newWay(kind, road.carts);
        System.arraycopy(sheet.row, 0, made.choices, 0, made.carts);
        ways[wayCount] = made;
        wayCount++;
        return wayCount - 1;
    }

    public int wayTold(int w, int what) {
        Way way = wayAt(w);
        if (way == null) {
            return NOT_THERE;
        }
        if (what == -1) {
            return way.kind();
        }
        if (what == -2) {
            return way.carts;
        }
        return way.isFor(what) ? way.choices[what] : NOT_SO;
    }

    public int set(int w, int c, int choice) {
        Way way = wayAt(w);
        if (way == null || !way.isFor(c)) {
            return NOT_THERE;
        }
        if (!within(choice, STAY)) {
            return NOT_SO;
        }
        int was = way.choices[c];
        way.choices[c] = choice;
        return was;
    }

    public int of(int w, int c, int what) {
        Way way = wayAt(w);
        if (way == null || !way.isFor(c)) {
            return NO_COST;
        }
        if (!within(what, 4)) {
            return NO_SUCH_WHAT;
        }
        crowd.follow(way);
        switch (what) {
            case 0: return crowd.came[c];
            case 1: return crowd.passed[c];
            case 2: return crowd.costOf(way, c, texts[rule]);
            case 3: return crowd.paidOf(way, c);
            default: return crowd.lostOf(way, c, texts[rule]);
        }
    }

    public int line(int w, int g, int t) {
        Way way = wayAt(w);
        if (way == null || !isGate(g) || !isMinute(t)) {
            return NOT_THERE;
        }
        crowd.follow(way);
        return crowd.waitingBehind(way, g, t);
    }

    public int passes(int w, int i) {
        Way way = wayAt(w);
        if (way == null) {
            return NOT_THERE;
        }
        crowd.follow(way);
        if (i == -1) {
            return crowd.passCount;
        }
        return i >= 0 && i < crowd.passCount ? crowd.inOrder[i] : NONE;
    }

    public long sum(int w, int what) {
        Way way = wayAt(w);
        if (way == null || !within(what, 3)) {
            return NO;
        }
        crowd.follow(way);
        long all = 0;
        for (int c = 0; c < way.carts; c++) {
            switch (what) {
                case 0: all += crowd.costOf(way, c, texts[rule]); break;
                case 1: all += crowd.lostOf(way, c, texts[rule]); break;
                case 2: all += crowd.paidOf(way, c); break;
                default: all += crowd.waitOf(c); break;
            }
        }
        return all;
    }

    // ---- at rest

    public int judge(int w, int what) {
        Way way = wayAt(w);
        if (way == null) {
            return NOT_THERE;
        }
        if (!within(what, 2)) {
            return NOT_SO;
        }
        int restless = findRestless(way);
        if (restless == NONE) {
            return NONE;
        }
        switch (what) {
            case 0: return restless;
            case 1: return betterChoice;
            default: return betterBy;
        }
    }

    public int rest(int w, int n) {
        Way way = wayAt(w);
        if (way == null) {
            return NOT_THERE;
        }
        if (!within(n, MOST_MOVES)) {
            return NOT_SO;
        }
        int moves = 0;
        while (moves < n && makesMove(way)) {
            moves++;
        }
        return moves;
    }

    public int other(int w, int c, int choice) {
        Way way = wayAt(w);
        if (way == null || !way.isFor(c) || !within(choice, STAY)) {
            return NO_COST;
        }
        crowd.gather(way, c);
        return crowd.costIf(way, c, choice, texts[rule]);
    }

    public int swap(int w, int a, int b) {
        Way way = wayAt(w);
        if (way == null || !way.isFor(a) || !way.isFor(b)) {
            return NOT_THERE;
        }
        if (a == b) {
            return NOT_SO;
        }
        Text now = texts[rule];
        crowd.follow(way);
        int costA = crowd.costOf(way, a, now);
        int costB = crowd.costOf(way, b, now);
        way.exchange(a, b);
        crowd.follow(way);
        if (crowd.costOf(way, a, now) < costA && crowd.costOf(way, b, now) < costB) {
            return 1;
        }
        way.exchange(a, b);
        return 0;
    }

    // ---- what would be otherwise

    public long beside(int w, int g, int t, int n) {
        Way way = wayAt(w);
        if (way == null || !isGate(g) || !isMinute(t) || !within(n, MOST_RATE)) {
            return NO;
        }
        return costWithRate(way, g, t, n) - costOfAll(way);
    }

    public long sticks(int w, int g, int t, int tenths, int part) {
        Way way = wayAt(w);
        if (way == null || !isGate(g) || !isMinute(t)) {
            return NO;
        }
        if (!within(tenths, TENTHS) || !within(part, 1)) {
            return NO;
        }
        long above = (TENTHS - tenths) * costOfAll(way) + tenths * costWithRate(way, g, t, 0);
        long below = TENTHS;
        for (int factor = 2; factor <= TENTHS; factor++) {
            if (above % factor == 0 && below % factor == 0) {
                above /= factor;
                below /= factor;
            }
        }
        return part == 0 ? above : below;
    }

    public long shift(int w, int by) {
        Way way = wayAt(w);
        if (way == null || by <= -MINUTES || by >= MINUTES) {
            return NO;
        }
        road.later = by;
        long all = costOfAll(way);
        road.later = 0;
        return all;
    }

    public int finest(int w, int g, int t, int n) {
        Way way = wayAt(w);
        if (way == null || !isGate(g) || !isMinute(t)) {
            return NOT_THERE;
        }
        if (!within(n, MOST_FINEST_MOVES)) {
            return NOT_SO;
        }
        int finest = 0;
        int least = waitedByToll(way, g, t, 0, n);
        for (int v = 1; v <= MOST_FINEST_TOLL; v++) {
            int waited = waitedByToll(way, g, t, v, n);
            if (waited < least) {
                least = waited;
                finest = v;
            }
        }
        return finest;
    }

    public long split(int w, int a, int b, int what) {
        Way way = wayAt(w);
        if (way == null || !within(a, STAY) || !within(b, STAY) || !within(what, 1)) {
            return NO;
        }
        System.arraycopy(way.choices, 0, aside, 0, CARTS);
        way.divide(0, a, b);
        int best = 0;
        long least = costOfAll(way);
        for (int n = 1; n <= way.carts; n++) {
            way.divide(n, a, b);
            long all = costOfAll(way);
            if (all < least) {
                least = all;
                best = n;
            }
        }
        System.arraycopy(aside, 0, way.choices, 0, CARTS);
        return what == 0 ? best : least;
    }

    public int count(int what) {
        switch (what) {
            case 0: return road.sorts;
            case 1: return road.carts;
            case 2: return wayCount;
            case 3: return textCount;
            case 4: return rule;
            case 5: return reader.size;
            default: return BAD;
        }
    }

    public int image() {
        kept.become(road, road.sorts);
        for (int w = 0; w < wayCount; w++) {
            System.arraycopy(ways[w].choices, 0, ways[w].kept, 0, CARTS);
        }
        isKept = true;
        keptSorts = road.sorts;
        keptWays = wayCount;
        keptRule = rule;
        return wayCount;
    }

    public int back() {
        if (!isKept) {
            return STATE;
        }
        road.become(kept, keptSorts);
        for (int w = 0; w < keptWays; w++) {
            System.arraycopy(ways[w].kept, 0, ways[w].choices, 0, CARTS);
        }
        rule = keptRule;
        return wayCount;
    }

    // ---- the host

    public int sheet(int s, int sort, int n) {
        if (!isSheet(s) || sort < Sheet.MISSING || sort > Sheet.INTS) {
            return BAD;
        }
        if (sort != Sheet.MISSING && n > MOST_CELLS) {
            return BAD;
        }
        if (sort != Sheet.MISSING && n < 0) {
            return BELOW;
        }
        sheets[s].renew(sort, sort == Sheet.MISSING ? 0 : n);
        return 1;
    }

    public int cell(int s, int i, int v) {
        if (!isSheet(s)) {
            return BAD;
        }
        Sheet sheet = sheets[s];
        if (sheet.isMissing()) {
            return NOTHING;
        }
        if (i < 0 || i >= sheet.size) {
            return OUTSIDE;
        }
        sheet.row[i] = sheet.fitted(v);
        return 1;
    }

    public int copy(int s, int i, int other, int j, int n) {
        if (!isSheet(s) || !isSheet(other)) {
            return BAD;
        }
        Sheet from = sheets[s];
        Sheet to = sheets[other];
        if (from.isMissing() || to.isMissing()) {
            return NOTHING;
        }
        if (from.sort != to.sort) {
            return UNLIKE;
        }
        if (!from.reaches(i, n) || !to.reaches(j, n)) {
            return OUTSIDE;
        }
        System.arraycopy(from.row, i, to.row, j, n);
        return n;
    }

    public int rates(int s, int sort, int at, int n) {
        if (!isSheet(s) || !within(sort, Sheet.INTS) || !within(n, MOST_TOLD_RATES)) {
            return BAD;
        }
        Sheet sheet = sheets[s];
        if (sheet.isMissing()) {
            return NOTHING;
        }
        if (sheet.sort != sort) {
            return UNLIKE;
        }
        int told = 0;
        int place = at;
        for (int k = 0; k < n; k++) {
            if (!sheet.reaches(place, CELLS_OF_A_RATE)) {
                return OUTSIDE;
            }
            int[] row = sheet.row;
            if (rate(row[place], row[place + 1], row[place + 2], row[place + 3]) >= 0) {
                told++;
            }
            place += CELLS_OF_A_RATE;
        }
        return told;
    }

    public int taken(int i, int kind) {
        if (!within(kind, KINDS)) {
            return BAD;
        }
        if (i < 0 || i >= CARTS + WAYS) {
            return OUTSIDE;
        }
        if (i < CARTS) {
            if (i >= road.carts) {
                return NOTHING;
            }
            return kind == KINDS ? road.sortOf[i] : UNLIKE;
        }
        Way way = wayAt(i - CARTS);
        if (way == null) {
            return NOTHING;
        }
        return isOfKind(way, kind) ? i - CARTS : UNLIKE;
    }

    // ---- what the face leans on

    private static boolean within(int v, int most) {
        return v >= 0 && v <= most;
    }

    private static boolean isGate(int g) {
        return within(g, GATES - 1);
    }

    private static boolean isMinute(int t) {
        return within(t, MINUTES - 1);
    }

    private static boolean isSheet(int s) {
        return within(s, SHEETS - 1);
    }

    private boolean isSort(int s) {
        return s >= 0 && s < road.sorts;
    }

    private Way wayAt(int w) {
        return w >= 0 && w < wayCount ? ways[w] : null;
    }

    private static boolean holdsChoices(Sheet sheet) {
        for (int i = 0; i < sheet.size; i++) {
            if (!within(sheet.row[i], STAY)) {
                return false;
            }
        }
        return true;
    }

    private static Way newWay(int kind, int carts) {
        switch (kind) {
            case 1: return new Tolled(carts);
            case 2: return new Numbered(carts);
            case 3: return new Drawn(carts);
            case 4: return new Last(carts);
            case 5: return new Sorted(carts);
            default: return new Way(carts);
        }
    }

    private static boolean isOfKind(Way way, int kind) {
        switch (kind) {
            case 0: return true;
            case 1: return way instanceof Tolled;
            case 2: return way instanceof Numbered;
            case 3: return way instanceof Drawn;
            case 4: return way instanceof Last;
            case 5: return way instanceof Sorted;
            default: return false;
        }
    }

    private long costOfAll(Way way) {
        crowd.follow(way);
        long all = 0;
        for (int c = 0; c < way.carts; c++) {
            all += crowd.costOf(way, c, texts[rule]);
        }
        return all;
    }

    private long costWithRate(Way way, int g, int t, int n) {
        int was = road.rates[g][t];
        road.rates[g][t] = n;
        long all = costOfAll(way);
        road.rates[g][t] = was;
        return all;
    }

    private int waitedByToll(Way way, int g, int t, int v, int moves) {
        int was = road.tolls[g][t];
        System.arraycopy(way.choices, 0, aside, 0, CARTS);
        road.tolls[g][t] = v;
        if (moves > 0) {
            makesMove(way);
        }
        crowd.follow(way);
        int waited = 0;
        for (int c = 0; c < way.carts; c++) {
            boolean isStranded = crowd.came[c] != NEVER && crowd.passed[c] == NEVER;
            waited += isStranded ? WAIT_OF_THE_STRANDED : crowd.waitOf(c);
        }
        road.tolls[g][t] = was;
        System.arraycopy(aside, 0, way.choices, 0, CARTS);
        return waited;
    }

    private boolean makesMove(Way way) {
        int restless = findRestless(way);
        if (restless == NONE) {
            return false;
        }
        way.choices[restless] = betterChoice;
        return true;
    }

    /** The first cart that has a better choice (betterChoice, less by betterBy), or NONE. */
    private int findRestless(Way way) {
        Text now = texts[rule];
        for (int c = 0; c < way.carts; c++) {
            crowd.gather(way, c);
            int own = crowd.costIf(way, c, way.choices[c], now);
            int least = own;
            for (int choice = 0; choice <= STAY; choice++) {
                int cost = crowd.costIf(way, c, choice, now);
                if (cost < least) {
                    least = cost;
                    betterChoice = choice;
                }
            }
            if (least < own) {
                betterBy = own - least;
                return c;
            }
        }
        return NONE;
    }

    /** What is told of gates, sorts and carts. */
    private static final class Road {
        final int[][] rates = new int[GATES][MINUTES];
        final int[][] tolls = new int[GATES][MINUTES];
        final int[][] lengths = new int[GATES][SORTS];
        final int[] wished = new int[SORTS];
        final int[] stays = new int[SORTS];
        int sorts = 0;
        final int[] sortOf = new int[CARTS];
        int carts = 0;
        // By how much all wished minutes are put off while it is looked at what that would do.
        int later = 0;

        Road() {
            for (int t = 0; t < MINUTES; t++) {
                rates[0][t] = 1;
                rates[1][t] = 1;
            }
        }

        void become(Road from, int sortsOfIt) {
            for (int g = 0; g < GATES; g++) {
                System.arraycopy(from.rates[g], 0, rates[g], 0, MINUTES);
                System.arraycopy(from.tolls[g], 0, tolls[g], 0, MINUTES);
            }
            System.arraycopy(from.wished, 0, wished, 0, sortsOfIt);
        }
    }

    /** A choice for each cart; the kinds below say otherwise who passes first, what is paid and spared. */
    private static class Way {
        final int carts;
        final int[] choices = new int[CARTS];
        final int[] kept = new int[CARTS];

        Way(int carts) {
            this.carts = carts;
        }

        int kind() {
            return 0;
        }

        int order(int c, int came, int s) {
            return came;
        }

        int paid(int toll) {
            return 0;
        }

        int spared(int wait) {
            return 0;
        }

        final boolean isFor(int c) {
            return c >= 0 && c < carts;
        }

        final void exchange(int a, int b) {
            int was = choices[a];
            choices[a] = choices[b];
            choices[b] = was;
        }

        final void divide(int n, int first, int others) {
            for (int c = 0; c < carts; c++) {
                choices[c] = c < n ? first : others;
            }
        }
    }

    private static class Tolled extends Way {
        Tolled(int carts) {
            super(carts);
        }

        int kind() {
            return 1;
        }

        int paid(int toll) {
            return toll;
        }
    }

    private static class Numbered extends Way {
        Numbered(int carts) {
            super(carts);
        }

        int kind() {
            return 2;
        }

        int order(int c, int came, int s) {
            return c;
        }
    }

    private static final class Drawn extends Numbered {
        Drawn(int carts) {
            super(carts);
        }

        int kind() {
            return 3;
        }

        int order(int c, int came, int s) {
            return (5 * super.order(c, came, s) + 3) % 17;
        }
    }

    private static final class Last extends Way {
        Last(int carts) {
            super(carts);
        }

        int kind() {
            return 4;
        }

        int order(int c, int came, int s) {
            return -super.order(c, came, s);
        }

        int spared(int wait) {
            return wait > 4 ? 2 : 0;
        }
    }

    private static final class Sorted extends Tolled {
        Sorted(int carts) {
            super(carts);
        }

        int kind() {
            return 5;
        }

        int order(int c, int came, int s) {
            return super.order(c, came, s) - 3 * s;
        }

        int paid(int toll) {
            return super.paid(toll) / 2;
        }
    }

    /** Who comes to which gate when, who passes when, and what that costs. */
    private static final class Line {
        final Road road = new Road();
        final int[] came = new int[CARTS];
        final int[] passed = new int[CARTS];
        final int[] inOrder = new int[CARTS];
        int passCount = 0;
        // The carts of each gate as they stand in its order; a set of them is bits by their ranks there,
        // so that those who pass next are its lowest bits.
        private final int[][] ranked = new int[GATES][CARTS];
        private final int[][] orders = new int[GATES][CARTS];
        private final int[] crowds = new int[GATES];
        private final int[][] comers = new int[GATES][MINUTES];
        private final int[] facts = new int[Text.NAMES];
        private final int[] stack = new int[Text.STACK];

        void follow(Way way) {
            gather(way, NONE);
            passCount = 0;
            for (int c = 0; c < CARTS; c++) {
                passed[c] = NEVER;
            }
            int first = 0;
            int second = 0;
            for (int t = 0; t < MINUTES; t++) {
                first = letPass(0, t, first | comers[0][t]);
                second = letPass(1, t, second | comers[1][t]);
            }
        }

        private int letPass(int g, int t, int waiting) {
            int left = waiting;
            for (int i = 0; i < road.rates[g][t] && left != 0; i++) {
                // As many bits as stand below the lowest one: its rank.
                int c = ranked[g][Integer.bitCount((left & -left) - 1)];
                left &= left - 1;
                passed[c] = t;
                inOrder[passCount] = c;
                passCount++;
            }
            return left;
        }

        /** Who comes to the gates but for one cart (NONE: all come). */
        void gather(Way way, int without) {
            crowds[0] = 0;
            crowds[1] = 0;
            for (int c = 0; c < way.carts; c++) {
                came[c] = cameBy(c, way.choices[c]);
                if (c != without && came[c] != NEVER) {
                    rank(way.choices[c] / MINUTES, c, way.order(c, came[c], road.sortOf[c]));
                }
            }
            for (int g = 0; g < GATES; g++) {
                for (int t = 0; t < MINUTES; t++) {
                    comers[g][t] = 0;
                }
                for (int r = 0; r < crowds[g]; r++) {
                    comers[g][came[ranked[g][r]]] |= 1 << r;
                }
            }
        }

        private int cameBy(int c, int choice) {
            if (choice >= STAY) {
                return NEVER;
            }
            int came = choice % MINUTES + road.lengths[choice / MINUTES][road.sortOf[c]];
            return came < MINUTES ? came : NEVER;
        }

        private void rank(int g, int c, int order) {
            // The lesser carts are ranked already, so that one of like order comes behind them.
            int r = crowds[g];
            for (; r > 0 && orders[g][r - 1] > order; r--) {
                orders[g][r] = orders[g][r - 1];
                ranked[g][r] = ranked[g][r - 1];
            }
            orders[g][r] = order;
            ranked[g][r] = c;
            crowds[g]++;
        }

        /** What a cart's cost were by a choice; the others have been gathered without it. */
        int costIf(Way way, int c, int choice, Text rule) {
            int comes = cameBy(c, choice);
            int passes = NEVER;
            if (comes != NEVER) {
                int g = choice / MINUTES;
                passes = minuteAmongOthers(g, comes, aheadOf(g, c, way.order(c, comes, road.sortOf[c])));
            }
            return cost(way, c, choice, comes, passes, rule);
        }

        private int aheadOf(int g, int c, int order) {
            int n = 0;
            for (int r = 0; r < crowds[g]; r++) {
                if (orders[g][r] < order || orders[g][r] == order && ranked[g][r] < c) {
                    n++;
                }
            }
            return (1 << n) - 1;
        }

        private int minuteAmongOthers(int g, int comes, int ahead) {
            int waiting = 0;
            for (int t = 0; t < MINUTES; t++) {
                waiting |= comers[g][t];
                int rate = road.rates[g][t];
                if (t >= comes && Integer.bitCount(waiting & ahead) < rate) {
                    return t;
                }
                for (int i = 0; i < rate; i++) {
                    waiting &= waiting - 1;
                }
            }
            return NEVER;
        }

        int costOf(Way way, int c, Text rule) {
            return cost(way, c, way.choices[c], came[c], passed[c], rule);
        }

        private int cost(Way way, int c, int choice, int comes, int passes, Text rule) {
            if (choice == STAY) {
                return road.stays[road.sortOf[c]];
            }
            if (passes == NEVER) {
                return NEVER_PASSES;
            }
            learn(c, comes, passes, way.paid(road.tolls[choice / MINUTES][passes]));
            return Text.amount(rule.cost, facts, stack) - way.spared(passes - comes);
        }

        int lostOf(Way way, int c, Text rule) {
            if (passed[c] == NEVER) {
                return 0;
            }
            learn(c, came[c], passed[c], paidOf(way, c));
            return Text.amount(rule.lost, facts, stack);
        }

        private void learn(int c, int comes, int passes, int pays) {
            int s = road.sortOf[c];
            int wished = Math.max(0, Math.min(MINUTES - 1, road.wished[s] + road.later));
            facts[0] = passes - comes;
            facts[1] = Math.max(0, wished - passes);
            facts[2] = Math.max(0, passes - wished);
            facts[3] = passes;
            facts[4] = s;
            facts[5] = pays;
        }

        int paidOf(Way way, int c) {
            return passed[c] == NEVER ? 0 : way.paid(road.tolls[way.choices[c] / MINUTES][passed[c]]);
        }

        int waitOf(int c) {
            return passed[c] == NEVER ? 0 : passed[c] - came[c];
        }

        int waitingBehind(Way way, int g, int t) {
            int n = 0;
            for (int c = 0; c < way.carts; c++) {
                boolean isHere = came[c] != NEVER && came[c] <= t && way.choices[c] / MINUTES == g;
                if (isHere && (passed[c] == NEVER || passed[c] > t)) {
                    n++;
                }
            }
            return n;
        }
    }

    /** A rule as it was read: what cost and lost say, each as steps over a stack (a step below FACTS is a number). */
    private static final class Text {
        static final int FACTS = 10000, NAMES = 6, STACK = 64;
        static final int PLUS = FACTS + NAMES, MINUS = PLUS + 1, TIMES = PLUS + 2, LESS = PLUS + 3, SAME = PLUS + 4;
        static final int AND = PLUS + 5, OR = PLUS + 6, NOT = PLUS + 7, NEGATE = PLUS + 8;
        static final int BOUND = 9999;
        static final int[] FIRST_COST = {FACTS, 2, TIMES, FACTS + 1, PLUS, FACTS + 2, 3, TIMES, PLUS, FACTS + 5, PLUS};
        static final int[] FIRST_LOST = {FACTS};

        final int[] cost;
        final int[] lost;

        Text(int[] cost, int[] lost) {
            this.cost = cost;
            this.lost = lost;
        }

        static int amount(int[] steps, int[] facts, int[] stack) {
            int top = 0;
            for (int i = 0; i < steps.length; i++) {
                int step = steps[i];
                int takes = step < PLUS ? 0 : step < NOT ? 2 : 1;
                if (top < takes || top - takes >= stack.length) {
                    break;
                }
                top -= takes;
                if (takes == 0) {
                    stack[top] = step < FACTS ? step : facts[step - FACTS];
                } else if (takes == 2) {
                    stack[top] = joined(step, stack[top], stack[top + 1]);
                } else if (step == NOT) {
                    stack[top] = stack[top] == 0 ? 1 : 0;
                } else {
                    stack[top] = -stack[top];
                }
                top++;
            }
            return Math.max(-BOUND, Math.min(BOUND, stack[0]));
        }

        private static int joined(int step, int a, int b) {
            switch (step) {
                case PLUS: return a + b;
                case MINUS: return a - b;
                case TIMES: return a * b;
                case LESS: return a < b ? 1 : 0;
                case SAME: return a == b ? 1 : 0;
                case AND: return a != 0 && b != 0 ? 1 : 0;
                default: return a != 0 || b != 0 ? 1 : 0;
            }
        }
    }

    /** The tape, and the reader that makes a text of it by the document's grammar. */
    private static final class Reader {
        private static final int TAPE = 160, DIGITS = 4, MOST_OPEN = 5;
        private static final String SIGNS = "();+-*<=";
        private static final String WORDS = "wait early late minute sort toll cost lost and or not";
        private static final int BLANK = 0, LETTER = 1, DIGIT = 2, SIGN = 3;
        // Tokens: a number is itself, a word WORD and its number among WORDS (a name is its step then),
        // a sign its byte and SIGNED.
        private static final int WORD = Text.FACTS, SIGNED = 20000, STOP = 30000, UNKNOWN = 30001;
        private static final int COST = WORD + 6, LOST = WORD + 7, AND = WORD + 8, OR = WORD + 9, NOT = WORD + 10;

        private final int[] tape = new int[TAPE];
        int size = 0;
        int fault = NONE;
        private final int[] tokens = new int[TAPE + 1];
        private final int[] starts = new int[TAPE + 1];
        private int tokenCount = 0;
        private int at = 0;
        private final int[] steps = new int[TAPE];
        private int stepCount = 0;

        boolean append(long w, int n) {
            if (n > TAPE - size) {
                return false;
            }
            for (int k = n - 1; k >= 0; k--) {
                tape[size] = (int) (w >> (8 * k)) & 255;
                size++;
            }
            return true;
        }

        /** The text that the tape is, or null: then fault tells its place. The tape is empty then. */
        Text readTape() {
            scan();
            at = 0;
            fault = NONE;
            stepCount = 0;
            readClause(COST);
            int costSteps = stepCount;
            readClause(LOST);
            if (tokens[at] != STOP) {
                fail();
            }
            size = 0;
            if (fault != NONE) {
                return null;
            }
            return new Text(Arrays.copyOf(steps, costSteps), Arrays.copyOfRange(steps, costSteps, stepCount));
        }

        private void readClause(int key) {
            expect(key);
            readOr(0);
            expect(SIGNED + ';');
        }

        private void readOr(int open) {
            readAnd(open);
            for (int i = 0; i < TAPE && tokens[at] == OR; i++) {
                advance();
                readAnd(open);
                emit(Text.OR);
            }
        }

        private void readAnd(int open) {
            readNot(open);
            for (int i = 0; i < TAPE && tokens[at] == AND; i++) {
                advance();
                readNot(open);
                emit(Text.AND);
            }
        }

        private void readNot(int open) {
            if (tokens[at] == NOT) {
                if (mayOpen(open)) {
                    readNot(open + 1);
                    emit(Text.NOT);
                }
                return;
            }
            readSum(open);
            if (tokens[at] == SIGNED + '<') {
                advance();
                readSum(open);
                emit(Text.LESS);
            } else if (tokens[at] == SIGNED + '=') {
                advance();
                readSum(open);
                emit(Text.SAME);
            }
        }

        private void readSum(int open) {
            readTerm(open);
            for (int i = 0; i < TAPE && (tokens[at] == SIGNED + '+' || tokens[at] == SIGNED + '-'); i++) {
                int step = tokens[at] == SIGNED + '+' ? Text.PLUS : Text.MINUS;
                advance();
                readTerm(open);
                emit(step);
            }
        }

        private void readTerm(int open) {
            readOne(open);
            for (int i = 0; i < TAPE && tokens[at] == SIGNED + '*'; i++) {
                advance();
                readOne(open);
                emit(Text.TIMES);
            }
        }

        private void readOne(int open) {
            int token = tokens[at];
            if (token < WORD + Text.NAMES) {
                emit(token);
                advance();
            } else if (token == SIGNED + '-') {
                if (mayOpen(open)) {
                    readOne(open + 1);
                    emit(Text.NEGATE);
                }
            } else if (token == SIGNED + '(') {
                if (mayOpen(open)) {
                    readOr(open + 1);
                    expect(SIGNED + ')');
                }
            } else {
                fail();
            }
        }

        /** Goes on behind a token that opens, unless too many are open. */
        private boolean mayOpen(int open) {
            if (open >= MOST_OPEN) {
                fail();
                return false;
            }
            advance();
            return true;
        }

        private void expect(int wanted) {
            if (tokens[at] == wanted) {
                advance();
            } else {
                fail();
            }
        }

        private void advance() {
            if (at < tokenCount) {
                at++;
            }
        }

        /** The first fault stands; behind it nothing is read but the end. */
        private void fail() {
            if (fault == NONE) {
                fault = starts[at];
            }
            at = tokenCount;
        }

        private void emit(int step) {
            if (stepCount < TAPE) {
                steps[stepCount] = step;
                stepCount++;
            }
        }

        private void scan() {
            tokenCount = 0;
            for (int i = 0; i < size; i++) {
                int look = lookOf(tape[i]);
                boolean goesOn = i > 0 && look != SIGN && look == lookOf(tape[i - 1]);
                if (look != BLANK && !goesOn) {
                    starts[tokenCount] = i;
                    tokens[tokenCount] = look == LETTER ? wordAt(i) : look == DIGIT ? numberAt(i) : signAt(i);
                    tokenCount++;
                }
            }
            starts[tokenCount] = size;
            tokens[tokenCount] = STOP;
        }

        private static int lookOf(int b) {
            if (b == ' ' || b == '\n') {
                return BLANK;
            }
            if (b >= 'a' && b <= 'z') {
                return LETTER;
            }
            return b >= '0' && b <= '9' ? DIGIT : SIGN;
        }

        private int signAt(int i) {
            return SIGNS.indexOf((char) tape[i]) >= 0 ? SIGNED + tape[i] : UNKNOWN;
        }

        private int numberAt(int from) {
            int number = 0;
            int digits = 0;
            for (int i = from; i < size && lookOf(tape[i]) == DIGIT; i++) {
                number = 10 * number + tape[i] - '0';
                digits++;
            }
            return digits <= DIGITS ? number : UNKNOWN;
        }

        private int wordAt(int from) {
            int to = from;
            while (to < size && lookOf(tape[to]) == LETTER) {
                to++;
            }
            int n = 0;
            int begin = 0;
            for (int i = 0; i <= WORDS.length(); i++) {
                if (i == WORDS.length() || WORDS.charAt(i) == ' ') {
                    if (i - begin == to - from && isWord(begin, i, from)) {
                        return WORD + n;
                    }
                    n++;
                    begin = i + 1;
                }
            }
            return UNKNOWN;
        }

        private boolean isWord(int begin, int end, int from) {
            for (int i = begin; i < end; i++) {
                if (WORDS.charAt(i) != tape[from + i - begin]) {
                    return false;
                }
            }
            return true;
        }
    }

    /** A row of numbers of the host, or missing. */
    private static final class Sheet {
        static final int MISSING = -1, BYTES = 0, SHORTS = 1, INTS = 2;

        final int[] row = new int[MOST_CELLS];
        int sort = MISSING;
        int size = 0;

        boolean isMissing() {
            return sort == MISSING;
        }

        void renew(int newSort, int n) {
            sort = newSort;
            size = n;
            for (int i = 0; i < MOST_CELLS; i++) {
                row[i] = 0;
            }
        }

        int fitted(int v) {
            switch (sort) {
                case BYTES: return (byte) v;
                case SHORTS: return (short) v;
                default: return v;
            }
        }

        boolean reaches(int from, int n) {
            return from >= 0 && n >= 0 && from <= size - n;
        }
    }
}
