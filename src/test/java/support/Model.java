import java.util.ArrayList;
import java.util.Comparator;
import java.util.List;

/** The document in its slowest and plainest form, written apart from the class to be held against it. */
final class Model {
    static final int NONE = -1, BAD = -2, STATE = -3, FULL = -4;
    static final long NO = -4611686018427387904L;

    static final class MWay {
        int kind;
        int[] choices;
    }

    static final class Kept {
        int[][] rates, tolls;
        int[] wished;
        List<int[]> choices = new ArrayList<>();
        int rule;
    }

    static final class MSheet {
        int sort;
        int[] row;
    }

    interface Node {
        int value(int[] facts);
    }

    static final class Fault extends RuntimeException {
        private static final long serialVersionUID = 1;
        final int place;

        Fault(int place) {
            super(null, null, false, false);
            this.place = place;
        }
    }

    int[][] rates = new int[2][24];
    int[][] tolls = new int[2][24];
    final List<int[]> sorts = new ArrayList<>();
    final List<Integer> carts = new ArrayList<>();
    final List<MWay> ways = new ArrayList<>();
    final List<Node[]> texts = new ArrayList<>();
    final StringBuilder tape = new StringBuilder();
    final MSheet[] sheets = new MSheet[4];
    int rule = 0;
    Kept kept = null;

    // What the last walk found.
    int[] came, passed;
    List<Integer> order;

    Model() {
        for (int[] row : rates) {
            java.util.Arrays.fill(row, 1);
        }
        texts.add(new Parser("cost wait * 2 + early + late * 3 + toll ; lost wait ;").text());
    }

    boolean gate(int g) {
        return g == 0 || g == 1;
    }

    boolean minute(int t) {
        return 0 <= t && t <= 23;
    }

    int rate(int g, int from, int to, int n) {
        if (!gate(g)) return NONE;
        if (!minute(from)) return NONE;
        if (to < 1 || to > 24 || to <= from) return BAD;
        if (n < 0 || n > 9) return BAD;
        int was = rates[g][from];
        for (int t = 0; t < 24; t++) if (t >= from && t < to) rates[g][t] = n;
        return was;
    }

    int toll(int g, int t, int v) {
        if (!gate(g) || !minute(t)) return NONE;
        if (v < 0 || v > 99) return BAD;
        int was = tolls[g][t];
        tolls[g][t] = v;
        return was;
    }

    int sort(int wished, int stays, int first, int second) {
        if (!minute(wished) || stays < 0 || stays > 999) return BAD;
        if (first < 0 || first > 9 || second < 0 || second > 9) return BAD;
        if (sorts.size() == 4) return FULL;
        sorts.add(new int[] {wished, stays, first, second});
        return sorts.size() - 1;
    }

    int cart(int s) {
        if (s < 0 || s >= sorts.size()) return NONE;
        if (carts.size() == 16) return FULL;
        carts.add(s);
        return carts.size() - 1;
    }

    int wishes(int s, int wished) {
        if (s < 0 || s >= sorts.size()) return -5;
        if (!minute(wished)) return -7;
        int was = sorts.get(s)[0];
        sorts.get(s)[0] = wished;
        return was;
    }

    int gateTold(int g, int t, int what) {
        if (!gate(g) || !minute(t)) return -5;
        if (what == 0) return rates[g][t];
        if (what == 1) return tolls[g][t];
        return -7;
    }

    int sortTold(int s, int what) {
        if (s < 0 || s >= sorts.size()) return -5;
        if (what < 0 || what > 3) return -7;
        return sorts.get(s)[what];
    }

    int feed(long w, int n) {
        if (n < 1 || n > 8) return BAD;
        if (tape.length() + n > 160) return FULL;
        for (int k = n; k > 0; k--) tape.append((char) (w >>> (8 * (k - 1)) & 0xFF));
        return tape.length();
    }

    int text() {
        if (texts.size() == 6) return FULL;
        String all = tape.toString();
        tape.setLength(0);
        try {
            texts.add(new Parser(all).text());
            return texts.size() - 1;
        } catch (Fault f) {
            return -100 - f.place;
        }
    }

    int force(int t) {
        if (t < 0 || t >= texts.size()) return BAD;
        int was = rule;
        rule = t;
        return was;
    }

    int way(int kind, int s) {
        if (kind < 0 || kind > 5 || s < 0 || s > 3) return BAD;
        if (sheets[s] == null) return -11;
        int[] row = sheets[s].row;
        if (row.length != carts.size()) return BAD;
        for (int v : row) if (v < 0 || v > 48) return BAD;
        if (ways.size() == 8) return FULL;
        MWay way = new MWay();
        way.kind = kind;
        way.choices = row.clone();
        ways.add(way);
        return ways.size() - 1;
    }

    boolean isWay(int w) {
        return w >= 0 && w < ways.size();
    }

    boolean isIn(int w, int c) {
        return isWay(w) && c >= 0 && c < ways.get(w).choices.length;
    }

    int wayTold(int w, int what) {
        if (!isWay(w)) return -5;
        if (what == -1) return ways.get(w).kind;
        if (what == -2) return ways.get(w).choices.length;
        return isIn(w, what) ? ways.get(w).choices[what] : -7;
    }

    int set(int w, int c, int choice) {
        if (!isIn(w, c)) return -5;
        if (choice < 0 || choice > 48) return -7;
        int was = ways.get(w).choices[c];
        ways.get(w).choices[c] = choice;
        return was;
    }

    int orderOf(int kind, int c, int cameAt) {
        switch (kind) {
            case 2: return c;
            case 3: return (5 * c + 3) % 17;
            case 4: return 0 - cameAt;
            case 5: return cameAt - 3 * carts.get(c);
            default: return cameAt;
        }
    }

    void walk(MWay way) {
        int n = way.choices.length;
        came = new int[n];
        passed = new int[n];
        order = new ArrayList<>();
        for (int c = 0; c < n; c++) {
            passed[c] = -1;
            came[c] = -1;
            int choice = way.choices[c];
            if (choice < 48) {
                int[] sort = sorts.get(carts.get(c));
                int at = choice < 24 ? choice + sort[2] : choice - 24 + sort[3];
                came[c] = at > 23 ? -1 : at;
            }
        }
        for (int t = 0; t < 24; t++) {
            for (int g = 0; g < 2; g++) {
                List<Integer> here = new ArrayList<>();
                for (int c = 0; c < n; c++) {
                    boolean right = g == 0 ? way.choices[c] < 24 : way.choices[c] >= 24 && way.choices[c] < 48;
                    if (right && came[c] >= 0 && came[c] <= t && passed[c] < 0) here.add(c);
                }
                final int[] cameAt = came;
                here.sort(Comparator.<Integer>comparingInt(c -> orderOf(way.kind, c, cameAt[c]))
                        .thenComparingInt(c -> c));
                for (int i = 0; i < here.size() && i < rates[g][t]; i++) {
                    passed[here.get(i)] = t;
                    order.add(here.get(i));
                }
            }
        }
    }

    int paid(MWay way, int c) {
        if (passed[c] < 0) return 0;
        int toll = tolls[way.choices[c] < 24 ? 0 : 1][passed[c]];
        return way.kind == 1 ? toll : way.kind == 5 ? toll / 2 : 0;
    }

    int said(MWay way, int c, int which) {
        int wished = sorts.get(carts.get(c))[0];
        int at = passed[c];
        int[] facts = {at - came[c], at < wished ? wished - at : 0, at > wished ? at - wished : 0, at, carts.get(c),
            paid(way, c)};
        int v = texts.get(rule)[which].value(facts);
        return v < -9999 ? -9999 : v > 9999 ? 9999 : v;
    }

    int cost(MWay way, int c) {
        if (way.choices[c] == 48) return sorts.get(carts.get(c))[1];
        if (passed[c] < 0) return 5000;
        int spared = way.kind == 4 && passed[c] - came[c] > 4 ? 2 : 0;
        return said(way, c, 0) - spared;
    }

    int lost(MWay way, int c) {
        return passed[c] < 0 ? 0 : said(way, c, 1);
    }

    int of(int w, int c, int what) {
        if (!isIn(w, c)) return -10000;
        if (what < 0 || what > 4) return -10001;
        MWay way = ways.get(w);
        walk(way);
        if (what == 0) return came[c];
        if (what == 1) return passed[c];
        if (what == 2) return cost(way, c);
        if (what == 3) return paid(way, c);
        return lost(way, c);
    }

    int line(int w, int g, int t) {
        if (!isWay(w) || !gate(g) || !minute(t)) return -5;
        MWay way = ways.get(w);
        walk(way);
        int n = 0;
        for (int c = 0; c < way.choices.length; c++) {
            if (way.choices[c] < 48 && way.choices[c] / 24 == g && came[c] >= 0 && came[c] <= t) {
                if (passed[c] < 0 || passed[c] > t) n++;
            }
        }
        return n;
    }

    int passes(int w, int i) {
        if (!isWay(w)) return -5;
        walk(ways.get(w));
        if (i == -1) return order.size();
        return i < 0 || i >= order.size() ? NONE : order.get(i);
    }

    long all(MWay way, int what) {
        walk(way);
        long n = 0;
        for (int c = 0; c < way.choices.length; c++) {
            if (what == 0) n += cost(way, c);
            if (what == 1) n += lost(way, c);
            if (what == 2) n += paid(way, c);
            if (what == 3 && passed[c] >= 0) n += passed[c] - came[c];
        }
        return n;
    }

    long sum(int w, int what) {
        if (!isWay(w) || what < 0 || what > 3) return NO;
        return all(ways.get(w), what);
    }

    int costBy(MWay way, int c, int choice) {
        int was = way.choices[c];
        way.choices[c] = choice;
        walk(way);
        int cost = cost(way, c);
        way.choices[c] = was;
        return cost;
    }

    /** The restless cart, its better choice, by how much; or null. */
    int[] restless(MWay way) {
        for (int c = 0; c < way.choices.length; c++) {
            int own = costBy(way, c, way.choices[c]);
            int best = -1;
            int least = Integer.MAX_VALUE;
            for (int choice = 0; choice < 49; choice++) {
                int cost = costBy(way, c, choice);
                if (cost < least) {
                    least = cost;
                    best = choice;
                }
            }
            if (least < own) return new int[] {c, best, own - least};
        }
        return null;
    }

    int judge(int w, int what) {
        if (!isWay(w)) return -5;
        if (what < 0 || what > 2) return -7;
        int[] found = restless(ways.get(w));
        return found == null ? NONE : found[what];
    }

    int moves(MWay way, int n) {
        int made = 0;
        for (int i = 0; i < n; i++) {
            int[] found = restless(way);
            if (found == null) break;
            way.choices[found[0]] = found[1];
            made++;
        }
        return made;
    }

    int rest(int w, int n) {
        if (!isWay(w)) return -5;
        if (n < 0 || n > 8) return -7;
        return moves(ways.get(w), n);
    }

    int other(int w, int c, int choice) {
        if (!isIn(w, c) || choice < 0 || choice > 48) return -10000;
        return costBy(ways.get(w), c, choice);
    }

    int swap(int w, int a, int b) {
        if (!isIn(w, a) || !isIn(w, b)) return -5;
        if (a == b) return -7;
        MWay way = ways.get(w);
        int[] was = way.choices.clone();
        walk(way);
        int beforeA = cost(way, a), beforeB = cost(way, b);
        way.choices[a] = was[b];
        way.choices[b] = was[a];
        walk(way);
        if (cost(way, a) < beforeA && cost(way, b) < beforeB) return 1;
        way.choices = was;
        return 0;
    }

    long withRate(int w, int g, int t, int n) {
        int was = rates[g][t];
        rates[g][t] = n;
        long v = all(ways.get(w), 0);
        rates[g][t] = was;
        return v;
    }

    long beside(int w, int g, int t, int n) {
        if (!isWay(w) || !gate(g) || !minute(t) || n < 0 || n > 9) return NO;
        long before = all(ways.get(w), 0);
        return withRate(w, g, t, n) - before;
    }

    long sticks(int w, int g, int t, int tenths, int part) {
        if (!isWay(w) || !gate(g) || !minute(t) || tenths < 0 || tenths > 10 || part < 0 || part > 1) return NO;
        java.math.BigInteger above = java.math.BigInteger.valueOf(
                all(ways.get(w), 0) * (10 - tenths) + withRate(w, g, t, 0) * tenths);
        java.math.BigInteger ten = java.math.BigInteger.TEN;
        java.math.BigInteger common = above.gcd(ten);
        return (part == 0 ? above : ten).divide(common).longValue();
    }

    long shift(int w, int by) {
        if (!isWay(w) || by < -23 || by > 23) return NO;
        int[] was = new int[sorts.size()];
        for (int s = 0; s < was.length; s++) {
            was[s] = sorts.get(s)[0];
            int v = was[s] + by;
            sorts.get(s)[0] = v < 0 ? 0 : v > 23 ? 23 : v;
        }
        long v = all(ways.get(w), 0);
        for (int s = 0; s < was.length; s++) sorts.get(s)[0] = was[s];
        return v;
    }

    int finest(int w, int g, int t, int n) {
        if (!isWay(w) || !gate(g) || !minute(t)) return -5;
        if (n < 0 || n > 1) return -7;
        MWay way = ways.get(w);
        int[] was = way.choices;
        int toll = tolls[g][t];
        int best = -1;
        long least = Long.MAX_VALUE;
        for (int v = 0; v < 8; v++) {
            way.choices = was.clone();
            tolls[g][t] = v;
            moves(way, n);
            long waited = all(way, 3);
            for (int c = 0; c < came.length; c++) if (came[c] >= 0 && passed[c] < 0) waited += 24;
            if (waited < least) {
                least = waited;
                best = v;
            }
        }
        way.choices = was;
        tolls[g][t] = toll;
        return best;
    }

    long split(int w, int a, int b, int what) {
        if (!isWay(w) || a < 0 || a > 48 || b < 0 || b > 48 || what < 0 || what > 1) return NO;
        MWay way = ways.get(w);
        int[] was = way.choices;
        int best = -1;
        long least = Long.MAX_VALUE;
        for (int n = 0; n <= was.length; n++) {
            way.choices = new int[was.length];
            for (int c = 0; c < was.length; c++) way.choices[c] = c < n ? a : b;
            long v = all(way, 0);
            if (v < least) {
                least = v;
                best = n;
            }
        }
        way.choices = was;
        return what == 0 ? best : least;
    }

    int count(int what) {
        switch (what) {
            case 0: return sorts.size();
            case 1: return carts.size();
            case 2: return ways.size();
            case 3: return texts.size();
            case 4: return rule;
            case 5: return tape.length();
            default: return BAD;
        }
    }

    int image() {
        kept = new Kept();
        kept.rates = new int[][] {rates[0].clone(), rates[1].clone()};
        kept.tolls = new int[][] {tolls[0].clone(), tolls[1].clone()};
        kept.wished = new int[sorts.size()];
        for (int s = 0; s < kept.wished.length; s++) kept.wished[s] = sorts.get(s)[0];
        for (MWay way : ways) kept.choices.add(way.choices.clone());
        kept.rule = rule;
        return ways.size();
    }

    int back() {
        if (kept == null) return STATE;
        rates = new int[][] {kept.rates[0].clone(), kept.rates[1].clone()};
        tolls = new int[][] {kept.tolls[0].clone(), kept.tolls[1].clone()};
        for (int s = 0; s < kept.wished.length; s++) sorts.get(s)[0] = kept.wished[s];
        for (int w = 0; w < kept.choices.size(); w++) ways.get(w).choices = kept.choices.get(w).clone();
        rule = kept.rule;
        return ways.size();
    }

    int sheet(int s, int sort, int n) {
        if (s < 0 || s > 3 || sort < -1 || sort > 2) return BAD;
        if (sort == -1) {
            sheets[s] = null;
            return 1;
        }
        if (n > 40) return BAD;
        if (n < 0) return -14;
        sheets[s] = new MSheet();
        sheets[s].sort = sort;
        sheets[s].row = new int[n];
        return 1;
    }

    int cell(int s, int i, int v) {
        if (s < 0 || s > 3) return BAD;
        if (sheets[s] == null) return -11;
        if (i < 0 || i >= sheets[s].row.length) return -12;
        sheets[s].row[i] = sheets[s].sort == 0 ? (byte) v : sheets[s].sort == 1 ? (short) v : v;
        return 1;
    }

    int copy(int s, int i, int other, int j, int n) {
        if (s < 0 || s > 3 || other < 0 || other > 3) return BAD;
        if (sheets[s] == null || sheets[other] == null) return -11;
        if (sheets[s].sort != sheets[other].sort) return -13;
        int[] from = sheets[s].row.clone();
        int[] to = sheets[other].row;
        if (i < 0 || j < 0 || n < 0 || (long) i + n > from.length || (long) j + n > to.length) return -12;
        for (int k = 0; k < n; k++) to[j + k] = from[i + k];
        return n;
    }

    int rates(int s, int sort, int at, int n) {
        if (s < 0 || s > 3 || sort < 0 || sort > 2 || n < 0 || n > 10) return BAD;
        if (sheets[s] == null) return -11;
        if (sheets[s].sort != sort) return -13;
        int told = 0;
        for (int k = 0; k < n; k++) {
            int[] four = new int[4];
            for (int m = 0; m < 4; m++) {
                long place = (long) at + 4 * k + m;
                if (place < 0 || place >= sheets[s].row.length) return -12;
                four[m] = sheets[s].row[(int) place];
            }
            if (rate(four[0], four[1], four[2], four[3]) >= 0) told++;
        }
        return told;
    }

    int taken(int i, int kind) {
        if (kind < 0 || kind > 6) return BAD;
        if (i < 0 || i > 23) return -12;
        if (i < 16) {
            if (i >= carts.size()) return -11;
            return kind == 6 ? carts.get(i) : -13;
        }
        if (!isWay(i - 16)) return -11;
        if (kind == 6) return -13;
        int[] above = {-1, 0, 0, 2, 0, 1};
        for (int k = ways.get(i - 16).kind; k >= 0; k = above[k]) if (k == kind) return i - 16;
        return -13;
    }

    /** Makes a tree of a text, or throws its fault. */
    static final class Parser {
        private final String all;
        private int start;
        private int place = 0;
        private String token;
        private int open = 0;

        Parser(String all) {
            this.all = all;
        }

        Node[] text() {
            next();
            want("cost");
            Node cost = either();
            want(";");
            want("lost");
            Node lost = either();
            want(";");
            if (!token.isEmpty()) throw new Fault(start);
            return new Node[] {cost, lost};
        }

        private void next() {
            while (place < all.length() && (all.charAt(place) == 32 || all.charAt(place) == 10)) place++;
            start = place;
            if (place == all.length()) {
                token = "";
                return;
            }
            java.util.regex.Matcher m =
                    java.util.regex.Pattern.compile("[a-z]+|[0-9]+|[();+\\-*<=]").matcher(all).region(place, all.length());
            if (!m.lookingAt()) throw new Fault(start);
            token = m.group();
            place = m.end();
            if (token.matches("[0-9]{5,}")) throw new Fault(start);
            if (token.matches("[a-z]+")
                    && !List.of("cost", "lost", "and", "or", "not", "wait", "early", "late", "minute", "sort", "toll")
                            .contains(token)) {
                throw new Fault(start);
            }
        }

        private void want(String wanted) {
            if (!token.equals(wanted)) throw new Fault(start);
            next();
        }

        private void down() {
            if (open == 5) throw new Fault(start);
            open++;
            next();
        }

        private Node either() {
            Node left = both();
            while (token.equals("or")) {
                next();
                Node a = left, b = both();
                left = f -> a.value(f) != 0 | b.value(f) != 0 ? 1 : 0;
            }
            return left;
        }

        private Node both() {
            Node left = not();
            while (token.equals("and")) {
                next();
                Node a = left, b = not();
                left = f -> a.value(f) != 0 & b.value(f) != 0 ? 1 : 0;
            }
            return left;
        }

        private Node not() {
            if (token.equals("not")) {
                down();
                Node a = not();
                open--;
                return f -> a.value(f) == 0 ? 1 : 0;
            }
            Node a = sum();
            if (token.equals("<")) {
                next();
                Node b = sum();
                return f -> a.value(f) < b.value(f) ? 1 : 0;
            }
            if (token.equals("=")) {
                next();
                Node b = sum();
                return f -> a.value(f) == b.value(f) ? 1 : 0;
            }
            return a;
        }

        private Node sum() {
            Node left = term();
            while (token.equals("+") || token.equals("-")) {
                boolean plus = token.equals("+");
                next();
                Node a = left, b = term();
                left = plus ? f -> a.value(f) + b.value(f) : f -> a.value(f) - b.value(f);
            }
            return left;
        }

        private Node term() {
            Node left = one();
            while (token.equals("*")) {
                next();
                Node a = left, b = one();
                left = f -> a.value(f) * b.value(f);
            }
            return left;
        }

        private Node one() {
            if (token.equals("-")) {
                down();
                Node a = one();
                open--;
                return f -> -a.value(f);
            }
            if (token.equals("(")) {
                down();
                Node a = either();
                if (!token.equals(")")) throw new Fault(start);
                open--;
                next();
                return a;
            }
            if (token.matches("[0-9]+")) {
                int v = Integer.parseInt(token);
                next();
                return f -> v;
            }
            int fact = List.of("wait", "early", "late", "minute", "sort", "toll").indexOf(token);
            if (fact < 0) throw new Fault(start);
            next();
            return f -> f[fact];
        }
    }
}
