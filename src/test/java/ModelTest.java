import java.util.Random;

/** Runs of calls by chance (of fixed seeds): every answer of the class is that of the model. */
public final class ModelTest {
    private static final int[] EDGES = {Integer.MIN_VALUE, Integer.MIN_VALUE + 1, -10001, -25, -24, -23, -3, -2, -1, 0, 1,
        2, 3, 4, 5, 6, 7, 8, 9, 10, 11, 15, 16, 17, 22, 23, 24, 25, 39, 40, 41, 47, 48, 49, 99, 100, 160, 999, 1000,
        Integer.MAX_VALUE - 3, Integer.MAX_VALUE};
    private static final String[] BITS = {"wait", "early", "late", "minute", "sort", "toll", "cost", "lost", "and", "or",
        "not", "(", ")", ";", "+", "-", "*", "<", "=", " ", "\n", "0", "7", "12", "9999", "10000", "waits", "$", "W", "%",
        "\u00e9", "-", "not ", "(", "("};

    private final Random random;
    private final GateRoad x = new GateRoad();
    private final Model m = new Model();
    private final Due due;
    private final String run;
    private final boolean edges;
    private final boolean thronged;
    private final int throng;

    private ModelTest(Due due, long seed) {
        this.due = due;
        this.random = new Random(seed);
        this.run = "seed " + seed;
        this.edges = seed % 4 == 3;
        this.thronged = seed % 2 == 0;
        this.throng = random.nextInt(12);
    }

    public static void main(String[] args) {
        Due due = new Due("ModelTest");
        int runs = args.length > 0 ? Integer.parseInt(args[0]) : 1000;
        int from = args.length > 1 ? Integer.parseInt(args[1]) : 0;
        for (int seed = from; seed < from + runs; seed++) {
            new ModelTest(due, seed).run();
        }
        due.end();
    }

    private int calls = 0;

    private void same(String what, long got, long want) {
        calls++;
        // What an object answers behind its 512th call is free; the last step may go beyond it.
        if (calls <= 512) {
            due.is(run + ", call " + calls + ": " + what, got, want);
        }
    }

    /** Mostly 0 .. n - 1, at times something else. */
    private int upTo(int n) {
        if (random.nextInt(edges ? 4 : 25) == 0) {
            return EDGES[random.nextInt(EDGES.length)];
        }
        return n <= 0 ? 0 : random.nextInt(n);
    }

    /** In every other run the carts throng about a few minutes. */
    private int choice() {
        int r = random.nextInt(10);
        if (thronged && r < 7) {
            return throng + random.nextInt(3) + (r == 6 ? 24 : 0);
        }
        return r < 6 ? upTo(12) + (random.nextBoolean() ? 24 : 0) : upTo(49);
    }

    private int anyMinute() {
        return thronged && random.nextInt(3) > 0 ? throng + random.nextInt(8) : upTo(24);
    }

    private int anyGate() {
        return thronged && random.nextInt(3) > 0 ? 0 : upTo(2);
    }

    private int anyWay() {
        return upTo(m.ways.size());
    }

    private int anyCart() {
        return upTo(m.carts.size());
    }

    private void run() {
        int begun = thronged ? 3 : random.nextInt(5);
        for (int i = 0; i < begun; i++) {
            tellSort();
        }
        int carts = thronged ? 6 + random.nextInt(10) : random.nextInt(12);
        for (int i = 0; i < carts; i++) {
            tellCart();
        }
        while (calls < 512) {
            step();
        }
    }

    private void tellSort() {
        int a = upTo(24), b = upTo(random.nextBoolean() ? 40 : 1000), c = upTo(6), d = upTo(10);
        same("sort(" + a + "," + b + "," + c + "," + d + ")", x.sort(a, b, c, d), m.sort(a, b, c, d));
    }

    private void tellCart() {
        int s = upTo(m.sorts.size());
        same("cart(" + s + ")", x.cart(s), m.cart(s));
    }

    private void step() {
        switch (random.nextInt(12)) {
            case 0: gates(); break;
            case 1: rules(); break;
            case 2: case 3: tellWay(); break;
            case 4: case 5: case 6: ways(); break;
            case 7: case 8: rest(); break;
            case 9: case 10: otherwise(); break;
            default: host(); break;
        }
    }

    private void gates() {
        int g = anyGate(), t = anyMinute();
        switch (random.nextInt(8)) {
            case 0: {
                int to = upTo(25), n = upTo(random.nextBoolean() ? 3 : 10);
                same("rate(" + g + "," + t + "," + to + "," + n + ")", x.rate(g, t, to, n), m.rate(g, t, to, n));
                break;
            }
            case 1: {
                int v = upTo(random.nextBoolean() ? 10 : 100);
                same("toll(" + g + "," + t + "," + v + ")", x.toll(g, t, v), m.toll(g, t, v));
                break;
            }
            case 2: {
                int s = upTo(m.sorts.size());
                same("wishes(" + s + "," + t + ")", x.wishes(s, t), m.wishes(s, t));
                break;
            }
            case 3: {
                int what = upTo(2);
                same("gateTold(" + g + "," + t + "," + what + ")", x.gateTold(g, t, what), m.gateTold(g, t, what));
                break;
            }
            case 4: {
                int s = upTo(m.sorts.size()), what = upTo(4);
                same("sortTold(" + s + "," + what + ")", x.sortTold(s, what), m.sortTold(s, what));
                break;
            }
            case 5: {
                int what = upTo(6);
                same("count(" + what + ")", x.count(what), m.count(what));
                break;
            }
            case 6: tellSort(); break;
            default: tellCart(); break;
        }
    }

    private String expression(int depth) {
        switch (random.nextInt(depth > 6 ? 2 : 11)) {
            case 0: return BITS[random.nextInt(6)];
            case 1: return "" + random.nextInt(random.nextBoolean() ? 10 : 10000);
            case 2: return expression(depth + 1) + " and " + expression(depth + 1);
            case 3: return expression(depth + 1) + " or " + expression(depth + 1);
            case 4: return "not " + expression(depth + 1);
            case 5: return "(" + expression(depth + 1) + ")";
            case 6: return "-" + expression(depth + 1);
            case 7: return expression(depth + 1) + "+" + expression(depth + 1);
            case 8: return expression(depth + 1) + "*" + expression(depth + 1);
            case 9: return expression(depth + 1) + (random.nextBoolean() ? "<" : " = ") + expression(depth + 1);
            default: return expression(depth + 1) + "-" + expression(depth + 1);
        }
    }

    private String text() {
        StringBuilder s = new StringBuilder("cost ");
        s.append(expression(3)).append(";lost ").append(expression(4)).append(";");
        if (random.nextInt(3) == 0) {
            int at = random.nextInt(s.length() + 1);
            s.insert(at, BITS[random.nextInt(BITS.length)]);
        }
        if (random.nextInt(8) == 0) {
            s.deleteCharAt(random.nextInt(s.length()));
        }
        if (random.nextInt(8) == 0) {
            s.setLength(random.nextInt(s.length() + 1));
        }
        return s.toString();
    }

    private void rules() {
        int r = random.nextInt(8);
        if (r == 0) {
            int n = upTo(9);
            long w = random.nextLong();
            same("feed(" + w + "," + n + ")", x.feed(w, n), m.feed(w, n));
            return;
        }
        if (r < 3) {
            int t = upTo(m.texts.size());
            same("force(" + t + ")", x.force(t), m.force(t));
            return;
        }
        String text = text();
        for (int i = 0; i < text.length(); i += 8) {
            long w = random.nextLong();
            int n = 0;
            for (int k = i; k < text.length() && n < 8; k++, n++) {
                w = w << 8 | text.charAt(k);
            }
            same("feed(" + w + "," + n + ")", x.feed(w, n), m.feed(w, n));
        }
        if (random.nextInt(10) > 0) {
            same("text() of " + m.tape, x.text(), m.text());
        }
    }

    private void tellWay() {
        int s = upTo(4);
        int n = random.nextInt(8) == 0 ? upTo(20) : m.carts.size();
        if (random.nextInt(4) > 0) {
            int sort = upTo(3);
            same("sheet(" + s + "," + sort + "," + n + ")", x.sheet(s, sort, n), m.sheet(s, sort, n));
            for (int i = 0; i < n && i < 16; i++) {
                int v = choice() + (random.nextInt(12) == 0 ? random.nextInt(3) << 8 : 0);
                same("cell(" + s + "," + i + "," + v + ")", x.cell(s, i, v), m.cell(s, i, v));
            }
        }
        int kind = upTo(6);
        same("way(" + kind + "," + s + ")", x.way(kind, s), m.way(kind, s));
    }

    private void ways() {
        int w = anyWay(), c = anyCart();
        switch (random.nextInt(7)) {
            case 0: {
                int what = random.nextInt(4) == 0 ? -1 - random.nextInt(2) : c;
                same("wayTold(" + w + "," + what + ")", x.wayTold(w, what), m.wayTold(w, what));
                break;
            }
            case 1: {
                int choice = choice();
                same("set(" + w + "," + c + "," + choice + ")", x.set(w, c, choice), m.set(w, c, choice));
                break;
            }
            case 2: case 3: {
                int what = upTo(5);
                same("of(" + w + "," + c + "," + what + ")", x.of(w, c, what), m.of(w, c, what));
                break;
            }
            case 4: {
                int g = anyGate(), t = anyMinute();
                same("line(" + w + "," + g + "," + t + ")", x.line(w, g, t), m.line(w, g, t));
                break;
            }
            case 5: {
                int i = upTo(17) - 1;
                same("passes(" + w + "," + i + ")", x.passes(w, i), m.passes(w, i));
                break;
            }
            default: {
                int what = upTo(4);
                same("sum(" + w + "," + what + ")", x.sum(w, what), m.sum(w, what));
                break;
            }
        }
    }

    private void rest() {
        int w = anyWay(), c = anyCart();
        switch (random.nextInt(12)) {
            case 0: case 1: {
                int what = upTo(3);
                same("judge(" + w + "," + what + ")", x.judge(w, what), m.judge(w, what));
                break;
            }
            case 2: {
                int n = upTo(random.nextBoolean() ? 3 : 9);
                same("rest(" + w + "," + n + ")", x.rest(w, n), m.rest(w, n));
                break;
            }
            case 3: case 4: case 5: case 6: {
                int choice = choice();
                same("other(" + w + "," + c + "," + choice + ")", x.other(w, c, choice), m.other(w, c, choice));
                break;
            }
            default: {
                int b = anyCart();
                same("swap(" + w + "," + c + "," + b + ")", x.swap(w, c, b), m.swap(w, c, b));
                break;
            }
        }
    }

    private void otherwise() {
        int w = anyWay(), g = anyGate(), t = anyMinute();
        switch (random.nextInt(8)) {
            case 0: {
                int n = upTo(10);
                same("beside(" + w + "," + g + "," + t + "," + n + ")", x.beside(w, g, t, n), m.beside(w, g, t, n));
                break;
            }
            case 1: case 2: {
                int tenths = upTo(11), part = upTo(2);
                same("sticks(" + w + "," + g + "," + t + "," + tenths + "," + part + ")",
                        x.sticks(w, g, t, tenths, part), m.sticks(w, g, t, tenths, part));
                break;
            }
            case 3: {
                int by = upTo(47) - 23;
                same("shift(" + w + "," + by + ")", x.shift(w, by), m.shift(w, by));
                break;
            }
            case 4: {
                int n = random.nextInt(3) == 0 ? 1 : upTo(2);
                same("finest(" + w + "," + g + "," + t + "," + n + ")", x.finest(w, g, t, n), m.finest(w, g, t, n));
                break;
            }
            case 5: {
                int a = choice(), b = choice(), what = upTo(2);
                same("split(" + w + "," + a + "," + b + "," + what + ")", x.split(w, a, b, what), m.split(w, a, b, what));
                break;
            }
            case 6: {
                if (random.nextInt(3) == 0) {
                    same("image()", x.image(), m.image());
                }
                break;
            }
            default: {
                if (random.nextInt(3) == 0) {
                    same("back()", x.back(), m.back());
                }
                break;
            }
        }
    }

    private void host() {
        int s = upTo(4), i = upTo(40);
        switch (random.nextInt(6)) {
            case 0: {
                int sort = upTo(4) - 1, n = upTo(41);
                same("sheet(" + s + "," + sort + "," + n + ")", x.sheet(s, sort, n), m.sheet(s, sort, n));
                break;
            }
            case 1: case 2: {
                int v = random.nextInt(4) == 0 ? random.nextInt() : upTo(24);
                same("cell(" + s + "," + i + "," + v + ")", x.cell(s, i, v), m.cell(s, i, v));
                break;
            }
            case 3: {
                int o = upTo(4), j = upTo(20), n = upTo(20);
                same("copy(" + s + "," + i + "," + o + "," + j + "," + n + ")", x.copy(s, i, o, j, n), m.copy(s, i, o, j, n));
                break;
            }
            case 4: manyRates(); break;
            default: {
                int at = upTo(24), kind = upTo(7);
                same("taken(" + at + "," + kind + ")", x.taken(at, kind), m.taken(at, kind));
                break;
            }
        }
    }

    private void manyRates() {
        int s = upTo(4);
        if (random.nextBoolean()) {
            int sort = random.nextInt(3), n = random.nextInt(41);
            same("sheet(" + s + "," + sort + "," + n + ")", x.sheet(s, sort, n), m.sheet(s, sort, n));
            for (int i = 0; i < n; i++) {
                int v = upTo(i % 4 == 0 ? 2 : i % 4 == 1 ? 12 : i % 4 == 2 ? 25 : 10);
                same("cell(" + s + "," + i + "," + v + ")", x.cell(s, i, v), m.cell(s, i, v));
            }
        }
        int sort = s >= 0 && s < 4 && m.sheets[s] != null && random.nextInt(6) > 0 ? m.sheets[s].sort : upTo(3);
        int at = upTo(5), n = upTo(11);
        same("rates(" + s + "," + sort + "," + at + "," + n + ")", x.rates(s, sort, at, n), m.rates(s, sort, at, n));
    }
}
