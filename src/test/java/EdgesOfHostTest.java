/** Promises 31 to 35, and what "Terms" say of sheets and refusals: each sentence at its bounds. */
public final class EdgesOfHostTest {
    private static final Due DUE = new Due("EdgesOfHostTest");
    private static final Twins SOME = new Twins(DUE, Twins::some);
    private static final Twins FULL = new Twins(DUE, Twins::full);
    private static final Twins ROWS = new Twins(DUE, EdgesOfHostTest::rows);
    private static final int MIN = Integer.MIN_VALUE, MAX = Integer.MAX_VALUE;
    private static final int[] NO_SHEETS = {-1, 4, MIN, MAX};

    public static void main(String[] args) {
        sheetsAtFirst();
        sorts();
        refusalsInOrder();
        refusalsByName();
        refusalsOfTheHost();
        refusalsChangeNothing();
        sheet();
        sheetIsAllNought();
        sheetMissing();
        sheetRefused();
        cell();
        cellBits();
        cellRefused();
        copy();
        copyAsTheyWere();
        copyRefused();
        copyOutside();
        rates();
        ratesLeftOut();
        ratesRefused();
        ratesOutside();
        takenCarts();
        takenWays();
        takenRefused();
        lastCall();
        DUE.end();
    }

    /** Three carts, and sheets of ints: 0 has 1 2 3, 1 has 11 12 13, 2 has 21 22 23 24, 3 none. */
    private static GateRoad rows() {
        GateRoad x = new GateRoad();
        x.sort(10, 50, 0, 0);
        Host.carts(x, 0, 0, 0);
        Host.fill(x, 0, 1, 2, 3);
        Host.fill(x, 1, 11, 12, 13);
        Host.fill(x, 2, 21, 22, 23, 24);
        x.sheet(3, 2, 0);
        return x;
    }

    /** A sheet's numbers come to light as choices of a way for as many carts. */
    private static void rowIs(GateRoad x, int s, int... want) {
        int w = x.way(0, s);
        DUE.is("sheet " + s + ": as many", x.wayTold(w, -2), want.length);
        for (int c = 0; c < want.length; c++) {
            DUE.is("number " + c + " of sheet " + s, x.wayTold(w, c), want[c]);
        }
    }

    private static void sheetsAtFirst() {
        DUE.terms("SHEETS 0 .. 3 are rows of numbers, or missing (as all are at first)");
        GateRoad x = new GateRoad();
        for (int s = 0; s <= 3; s++) {
            DUE.is("cell of " + s, x.cell(s, 0, 0), -11);
            DUE.is("copy of " + s, x.copy(s, 0, s, 0, 0), -11);
            DUE.is("rates by " + s, x.rates(s, 0, 0, 0), -11);
            DUE.is("way by " + s, x.way(0, s), -11);
        }
        for (int s = 0; s <= 3; s++) {
            DUE.is("sheet " + s, x.sheet(s, 0, s + 1), 1);
            DUE.is("its last", x.cell(s, s, 0), 1);
            DUE.is("behind its last", x.cell(s, s + 1, 0), -12);
        }
        for (int s : NO_SHEETS) {
            DUE.is("sheet " + s, x.sheet(s, 0, 1), GateRoad.BAD);
        }
    }

    private static void sorts() {
        DUE.terms("of sort 0 bytes, 1 shorts, 2 ints, 40 at most.");
        GateRoad x = new GateRoad();
        for (int sort = 0; sort <= 2; sort++) {
            DUE.is("40 of sort " + sort, x.sheet(sort, sort, 40), 1);
            DUE.is("the last", x.cell(sort, 39, 1), 1);
            DUE.is("behind the last", x.cell(sort, 40, 1), -12);
            DUE.is("41 of sort " + sort, x.sheet(sort, sort, 41), GateRoad.BAD);
            for (int other = 0; other <= 2; other++) {
                DUE.is("sort " + sort + " taken for " + other, x.rates(sort, other, 0, 0), sort == other ? 0 : -13);
            }
        }
        DUE.is("sort 3", x.sheet(3, 3, 1), GateRoad.BAD);
        DUE.is("sort -2", x.sheet(3, -2, 1), GateRoad.BAD);
    }

    private static void refusalsInOrder() {
        DUE.terms("REFUSALS, of several the first one told");
        FULL.unchanged("rate: NONE ahead of BAD", y -> y.rate(2, 5, 5, 10), GateRoad.NONE);
        FULL.unchanged("toll: NONE ahead of BAD", y -> y.toll(0, 24, 100), GateRoad.NONE);
        FULL.unchanged("sort: BAD ahead of FULL", y -> y.sort(24, 0, 0, 0), GateRoad.BAD);
        FULL.unchanged("cart: NONE ahead of FULL", y -> y.cart(4), GateRoad.NONE);
        FULL.unchanged("wishes: -5 ahead of -7", y -> y.wishes(4, 24), -5);
        FULL.unchanged("gateTold: -5 ahead of -7", y -> y.gateTold(0, 24, 2), -5);
        FULL.unchanged("sortTold: -5 ahead of -7", y -> y.sortTold(4, 4), -5);
        FULL.unchanged("feed: BAD ahead of FULL", y -> y.feed(0, 9), GateRoad.BAD);
        FULL.unchanged("text: FULL ahead of the fault", y -> y.text(), GateRoad.FULL);
        FULL.unchanged("way: BAD ahead of -11", y -> y.way(6, 3), GateRoad.BAD);
        FULL.unchanged("way: -11 ahead of FULL", y -> y.way(0, 3), -11);
        FULL.unchanged("wayTold: -5 ahead of -7", y -> y.wayTold(8, 16), -5);
        FULL.unchanged("set: -5 ahead of -7", y -> y.set(0, 16, 49), -5);
        FULL.unchanged("of: -10000 ahead of -10001", y -> y.of(0, 16, 5), -10000);
        FULL.unchanged("passes: -5 ahead of NONE", y -> y.passes(8, 99), -5);
        FULL.unchanged("judge: -5 ahead of -7", y -> y.judge(8, 3), -5);
        FULL.unchanged("rest: -5 ahead of -7", y -> y.rest(8, 9), -5);
        FULL.unchanged("swap: -5 ahead of -7", y -> y.swap(0, 16, 16), -5);
        FULL.unchanged("finest: -5 ahead of -7", y -> y.finest(0, 2, 0, 2), -5);
        FULL.unchanged("sheet: BAD ahead of -14", y -> y.sheet(4, 0, -1), GateRoad.BAD);
        FULL.unchanged("cell: BAD ahead of -11", y -> y.cell(4, 0, 0), GateRoad.BAD);
        FULL.unchanged("cell: -11 ahead of -12", y -> y.cell(3, 40, 0), -11);
        FULL.unchanged("copy: BAD ahead of -11", y -> y.copy(3, 0, 4, 0, 0), GateRoad.BAD);
        FULL.unchanged("copy: -11 ahead of -12", y -> y.copy(0, 17, 3, 0, 0), -11);
        SOME.unchanged("copy: -13 ahead of -12", y -> y.copy(0, 4, 1, 0, 0), -13);
        FULL.unchanged("rates: BAD ahead of -11", y -> y.rates(3, 3, 0, 1), GateRoad.BAD);
        FULL.unchanged("rates: -11 ahead of -12", y -> y.rates(3, 0, 40, 1), -11);
        SOME.unchanged("rates: -13 ahead of -12", y -> y.rates(0, 1, 40, 1), -13);
        SOME.unchanged("taken: BAD ahead of -12", y -> y.taken(24, 7), GateRoad.BAD);
        SOME.unchanged("taken: BAD ahead of -11", y -> y.taken(15, 7), GateRoad.BAD);
        SOME.unchanged("taken: -11 ahead of -13", y -> y.taken(15, 0), -11);
    }

    private static void refusalsByName() {
        DUE.terms("NONE there is no such GATE, MINUTE, SORT; BAD a number is not as told; STATE as told; FULL.");
        DUE.is("NONE", GateRoad.NONE, -1);
        DUE.is("BAD", GateRoad.BAD, -2);
        DUE.is("STATE", GateRoad.STATE, -3);
        DUE.is("FULL", GateRoad.FULL, -4);
        DUE.is("NO", GateRoad.NO, -4611686018427387904L);
        FULL.unchanged("no such gate", y -> y.rate(2, 0, 1, 0), -1);
        FULL.unchanged("no such minute", y -> y.toll(0, 24, 0), -1);
        FULL.unchanged("no such sort", y -> y.cart(4), -1);
        FULL.unchanged("a number that is not as told", y -> y.rate(0, 0, 1, 10), -2);
        FULL.unchanged("no image", y -> y.back(), -3);
        FULL.unchanged("full", y -> y.sort(0, 0, 0, 0), -4);
        FULL.unchanged("a long", y -> y.sum(8, 0), -4611686018427387904L);
    }

    private static void refusalsOfTheHost() {
        DUE.terms("The host's: -11 nothing there, -12 a place outside, -13 of another sort or KIND, -14 a size below 0.");
        SOME.unchanged("nothing there", y -> y.cell(3, 0, 0), -11);
        SOME.unchanged("no cart there", y -> y.taken(3, 6), -11);
        SOME.unchanged("a place outside", y -> y.cell(0, 3, 0), -12);
        SOME.unchanged("a place that holds nothing ever", y -> y.taken(24, 6), -12);
        SOME.unchanged("of another sort", y -> y.copy(0, 0, 1, 0, 1), -13);
        SOME.unchanged("of another kind", y -> y.taken(16, 2), -13);
        SOME.unchanged("a size below 0", y -> y.sheet(0, 0, -1), -14);
    }

    private static void refusalsChangeNothing() {
        DUE.terms("They change nothing.");
        SOME.unchanged("all that can be refused, one behind the other", EdgesOfHostTest::takenOfSome, 0);
        FULL.unchanged("what is refused where no room is left", EdgesOfHostTest::takenOfFull, 0);
    }

    private static boolean isRefused(long answer) {
        return answer == GateRoad.NO || answer == -10000 || answer == -10001 || answer < 0 && answer >= -14;
    }

    private static int notRefused(long... answers) {
        int n = 0;
        for (long answer : answers) {
            n += isRefused(answer) ? 0 : 1;
        }
        return n;
    }

    /** How many calls were taken of those that all must be refused. */
    private static long takenOfSome(GateRoad y) {
        return notRefused(y.rate(0, 24, 25, 1), y.rate(0, 5, 5, 1), y.rate(0, 0, 24, 10), y.toll(2, 0, 0),
                y.toll(0, 0, 100), y.sort(0, 0, 0, 10), y.cart(2), y.wishes(2, 0), y.wishes(0, 24), y.gateTold(0, 0, 2), y.sortTold(0, 4))
            + notRefused(y.feed(0, 0), y.feed(0, 9), y.force(2), y.force(-1))
            + notRefused(y.way(6, 0), y.way(0, 4), y.way(0, 3), y.wayTold(2, 0), y.wayTold(0, 3), y.set(0, 3, 0),
                y.set(0, 0, 49), y.of(0, 3, 0), y.of(0, 0, 5), y.line(0, 0, 24), y.passes(0, 3), y.sum(0, 4))
            + notRefused(y.judge(0, 3), y.rest(0, 9), y.rest(0, -1), y.other(0, 0, 49), y.swap(0, 0, 0), y.swap(0, 0, 3))
            + notRefused(y.beside(0, 0, 0, 10), y.sticks(0, 0, 0, 11, 0), y.shift(0, 24), y.finest(0, 0, 0, 2),
                y.split(0, 49, 0, 0), y.count(6))
            + notRefused(y.sheet(0, 3, 1), y.sheet(0, 0, -1), y.cell(0, 3, 9), y.copy(0, 0, 2, 1, 3), y.rates(0, 2, 0, 1),
                y.taken(16, 6), y.taken(0, 7));
    }

    private static long takenOfFull(GateRoad y) {
        return notRefused(y.sort(0, 0, 0, 0), y.cart(0), y.feed(0, 1), y.feed(0, 8), y.text(), y.text(), y.way(0, 0),
                y.back(), y.sheet(0, 0, 41));
    }

    private static void sheet() {
        DUE.promise(31, "A SHEET becomes a row of n of a sort");
        GateRoad x = new GateRoad();
        DUE.is("the least size", x.sheet(0, 0, 0), 1);
        DUE.is("it has no number", x.cell(0, 0, 1), -12);
        DUE.is("one", x.sheet(0, 0, 1), 1);
        DUE.is("its number", x.cell(0, 0, 1), 1);
        DUE.is("no second", x.cell(0, 1, 1), -12);
        DUE.is("the most", x.sheet(3, 2, 40), 1);
        DUE.is("the last", x.cell(3, 39, 1), 1);
        DUE.is("no more", x.cell(3, 40, 1), -12);
        DUE.is("less than it was", x.sheet(3, 1, 2), 1);
        DUE.is("its last", x.cell(3, 1, 1), 1);
        DUE.is("what was its last", x.cell(3, 39, 1), -12);
        DUE.is("its sort", x.rates(3, 1, 0, 0), 0);
        DUE.is("what was its sort", x.rates(3, 2, 0, 0), -13);
    }

    private static void sheetIsAllNought() {
        DUE.promise(31, "all 0");
        int[] noughts = new int[16];
        int[] others = new int[40];
        for (int i = 0; i < 40; i++) {
            others[i] = 7;
        }
        GateRoad y = new GateRoad();
        y.sort(0, 0, 0, 0);
        for (int c = 0; c < 16; c++) {
            y.cart(0);
        }
        for (int sort = 0; sort <= 2; sort++) {
            y.sheet(sort, sort, 16);
            rowIs(y, sort, noughts);
            Host.fillAs(y, sort, sort, others);
            y.sheet(sort, sort, 8);
            y.sheet(sort, sort, 16);
            rowIs(y, sort, noughts);
        }
        Host.fill(y, 3, others);
        y.sheet(3, -1, 0);
        y.sheet(3, 2, 16);
        rowIs(y, 3, noughts);
    }

    private static void sheetMissing() {
        DUE.promise(31, "or missing (sort -1: n does not matter): 1.");
        for (int n : new int[] {0, 1, 40, 41, -1, MIN, MAX}) {
            GateRoad x = Twins.some();
            DUE.is("n " + n, x.sheet(2, -1, n), 1);
            DUE.is("it is missing", x.cell(2, 0, 0), -11);
            DUE.is("no other is", x.cell(1, 0, 0), 1);
            DUE.is("missing again", x.sheet(2, -1, n), 1);
            DUE.is("it is missing still", x.way(0, 2), -11);
            SOME.unchanged("one that is missing, n " + n, y -> y.sheet(3, -1, n), 1);
        }
    }

    private static void sheetRefused() {
        DUE.promise(31, "BAD: SHEET, sort, n above 40; -14.");
        for (int s : NO_SHEETS) {
            SOME.unchanged("sheet " + s, y -> y.sheet(s, 0, 3), GateRoad.BAD);
            SOME.unchanged("sheet " + s + ", missing", y -> y.sheet(s, -1, 3), GateRoad.BAD);
            SOME.unchanged("sheet " + s + ", and n -1", y -> y.sheet(s, 0, -1), GateRoad.BAD);
        }
        for (int sort : new int[] {-2, 3, MIN, MAX}) {
            SOME.unchanged("sort " + sort, y -> y.sheet(0, sort, 3), GateRoad.BAD);
            SOME.unchanged("sort " + sort + ", and n -1", y -> y.sheet(0, sort, -1), GateRoad.BAD);
        }
        for (int n : new int[] {41, MAX}) {
            SOME.unchanged("n " + n, y -> y.sheet(0, 2, n), GateRoad.BAD);
        }
        for (int n : new int[] {-1, MIN}) {
            SOME.unchanged("n " + n, y -> y.sheet(0, 2, n), -14);
            SOME.unchanged("n " + n + " of a missing one", y -> y.sheet(3, 0, n), -14);
        }
    }

    private static void cell() {
        DUE.promise(32, "Number i of a SHEET becomes v");
        GateRoad x = rows();
        DUE.is("the first", x.cell(0, 0, 0), 1);
        DUE.is("the last", x.cell(0, 2, 48), 1);
        rowIs(x, 0, 0, 2, 48);
        rowIs(x, 1, 11, 12, 13);
        DUE.is("as it is", x.cell(1, 1, 12), 1);
        rowIs(x, 1, 11, 12, 13);
    }

    private static void cellBits() {
        DUE.promise(32, "(of bytes, shorts its lowest 8, 16 bits): 1.");
        int[] least = {0x105, 0x10005, 5};
        for (int sort = 0; sort <= 2; sort++) {
            GateRoad x = rows();
            x.sheet(3, sort, 3);
            DUE.is("more bits than sort " + sort + " has", x.cell(3, 0, least[sort]), 1);
            DUE.is("48", x.cell(3, 1, 48), 1);
            DUE.is("bits above, and below 0", x.cell(3, 2, sort == 0 ? MIN + 6 : sort == 1 ? -65536 + 6 : 6), 1);
            rowIs(x, 3, 5, 48, 6);
        }
        // What a sort holds is no choice: nothing of it is lost.
        int[][] held = {{0, 127}, {0, -128}, {0, -1}, {1, 256}, {1, 0x7FFF}, {1, -0x8000}, {1, 0x105}, {2, 0x10005},
            {2, MIN}, {2, MAX}, {2, 256}};
        for (int[] h : held) {
            GateRoad x = rows();
            x.sheet(3, h[0], 3);
            DUE.is(h[1] + " in sort " + h[0], x.cell(3, 2, h[1]), 1);
            DUE.is(h[1] + " is no choice in sort " + h[0], x.way(0, 3), GateRoad.BAD);
        }
    }

    private static void cellRefused() {
        DUE.promise(32, "BAD: SHEET; -11; -12.");
        for (int s : NO_SHEETS) {
            SOME.unchanged("sheet " + s, y -> y.cell(s, 0, 1), GateRoad.BAD);
            SOME.unchanged("sheet " + s + ", and outside", y -> y.cell(s, -1, 1), GateRoad.BAD);
        }
        for (int i : new int[] {0, -1, 40, MIN, MAX}) {
            SOME.unchanged("a missing sheet's " + i, y -> y.cell(3, i, 1), -11);
        }
        for (int i : new int[] {-1, 3, 39, 40, MIN, MAX}) {
            SOME.unchanged("number " + i + " of three", y -> y.cell(0, i, 1), -12);
        }
        ROWS.unchanged("the first of none", y -> y.cell(3, 0, 1), -12);
    }

    private static void copy() {
        DUE.promise(33, "n numbers of a SHEET, from i on, come to another one's (or its own) place j");
        GateRoad x = rows();
        DUE.is("the last to the first", x.copy(0, 2, 1, 0, 1), 1);
        rowIs(x, 1, 3, 12, 13);
        DUE.is("the first to the last", x.copy(0, 0, 1, 2, 1), 1);
        rowIs(x, 1, 3, 12, 1);
        DUE.is("all", x.copy(0, 0, 1, 0, 3), 3);
        rowIs(x, 1, 1, 2, 3);
        rowIs(x, 0, 1, 2, 3);
        DUE.is("of a longer one", x.copy(2, 1, 1, 0, 3), 3);
        rowIs(x, 1, 22, 23, 24);
        DUE.is("to its own", x.copy(1, 2, 1, 0, 1), 1);
        rowIs(x, 1, 24, 23, 24);
        ROWS.unchanged("none", y -> y.copy(0, 0, 1, 0, 0), 0);
        ROWS.unchanged("none, at both ends", y -> y.copy(0, 3, 1, 3, 0), 0);
        ROWS.unchanged("none of none", y -> y.copy(3, 0, 3, 0, 0), 0);
        ROWS.unchanged("all to where they are", y -> y.copy(2, 0, 2, 0, 4), 4);
        GateRoad most = new GateRoad();
        most.sheet(0, 0, 40);
        most.sheet(1, 0, 40);
        DUE.is("forty", most.copy(0, 0, 1, 0, 40), 40);
    }

    private static void copyAsTheyWere() {
        DUE.promise(33, "(as they were): n.");
        int[][] want = {{1, 1, 2, 3, 4}, {1, 1, 2, 3, 5}, {2, 3, 4, 5, 5}, {3, 4, 5, 4, 5}};
        int[][] calls = {{0, 1, 4}, {0, 1, 3}, {1, 0, 4}, {2, 0, 3}};
        for (int i = 0; i < 4; i++) {
            GateRoad x = new GateRoad();
            x.sort(0, 0, 0, 0);
            Host.carts(x, 0, 0, 0, 0, 0);
            Host.fill(x, 2, 1, 2, 3, 4, 5);
            DUE.is("from " + calls[i][0] + " to " + calls[i][1], x.copy(2, calls[i][0], 2, calls[i][1], calls[i][2]),
                    calls[i][2]);
            rowIs(x, 2, want[i]);
        }
    }

    private static void copyRefused() {
        DUE.promise(33, "BAD: SHEETS; -11; -13: unlike sorts;");
        for (int s : NO_SHEETS) {
            SOME.unchanged("from sheet " + s, y -> y.copy(s, 0, 0, 0, 1), GateRoad.BAD);
            SOME.unchanged("to sheet " + s, y -> y.copy(0, 0, s, 0, 1), GateRoad.BAD);
            SOME.unchanged("from a missing one to sheet " + s, y -> y.copy(3, -1, s, 0, -1), GateRoad.BAD);
        }
        SOME.unchanged("from a missing one", y -> y.copy(3, -1, 0, 0, -1), -11);
        SOME.unchanged("to a missing one", y -> y.copy(0, 0, 3, 0, 1), -11);
        SOME.unchanged("a missing one to itself", y -> y.copy(3, 0, 3, 0, 0), -11);
        SOME.unchanged("ints to shorts", y -> y.copy(0, 0, 1, 0, 1), -13);
        SOME.unchanged("shorts to ints, and outside", y -> y.copy(1, 4, 0, -1, -1), -13);
        SOME.unchanged("none of them", y -> y.copy(1, 0, 0, 0, 0), -13);
    }

    private static void copyOutside() {
        DUE.promise(33, "-12 (n below 0, too).");
        int[][] outside = {{-1, 0, 1}, {0, -1, 1}, {0, 0, -1}, {3, 0, 1}, {0, 3, 1}, {4, 0, 0}, {0, 4, 0}, {-1, 0, 0},
            {0, -1, 0}, {0, 0, 4}, {1, 0, 3}, {0, 1, 3}, {MAX, 0, 1}, {0, MAX, 1}, {MAX, 0, 0}, {0, MAX, 0}, {1, 1, MAX},
            {MAX, MAX, MAX}, {MIN, 0, 1}, {0, MIN, 1}, {0, 0, MIN}, {MIN, MIN, MIN}, {3, 3, MIN}, {MAX, 0, MIN},
            {3, 3, -3}};
        for (int[] o : outside) {
            String what = "from " + o[0] + " to " + o[1] + ", " + o[2];
            ROWS.unchanged(what, y -> y.copy(0, o[0], 1, o[1], o[2]), -12);
            ROWS.unchanged(what + " of itself", y -> y.copy(0, o[0], 0, o[1], o[2]), -12);
        }
        ROWS.unchanged("four of four to three", y -> y.copy(2, 0, 1, 0, 4), -12);
        ROWS.unchanged("four of three to four", y -> y.copy(1, 0, 2, 0, 4), -12);
        ROWS.unchanged("one of none", y -> y.copy(3, 0, 0, 0, 1), -12);
    }

    /** Sheets 0, 1, 2 of their sorts: ten rates each, of gate 0 in minutes 0 .. 9. */
    private static GateRoad tenRates() {
        GateRoad x = new GateRoad();
        for (int sort = 0; sort <= 2; sort++) {
            x.sheet(sort, sort, 40);
            for (int k = 0; k < 10; k++) {
                x.cell(sort, 4 * k + 1, k);
                x.cell(sort, 4 * k + 2, k + 1);
                x.cell(sort, 4 * k + 3, 2 + sort);
            }
        }
        return x;
    }

    private static void rates() {
        DUE.promise(34, "RATES by a SHEET of a sort: from a place on, four by four (as of rate()), n of them (0 .. 10)");
        for (int sort = 0; sort <= 2; sort++) {
            for (int n = 0; n <= 10; n += n == 1 ? 8 : 1) {
                GateRoad x = tenRates();
                DUE.is(n + " of sort " + sort, x.rates(sort, sort, 0, n), n);
                for (int t = 0; t < 24; t++) {
                    DUE.is(n + " of sort " + sort + ": rate in " + t, x.gateTold(0, t, 0), t < n ? 2 + sort : 1);
                    DUE.is(n + " of sort " + sort + ": the other gate in " + t, x.gateTold(1, t, 0), 1);
                }
            }
        }
        GateRoad last = tenRates();
        DUE.is("the last", last.rates(2, 2, 36, 1), 1);
        DUE.is("it was told", last.gateTold(0, 9, 0), 4);
        DUE.is("no other was", last.gateTold(0, 8, 0), 1);
        GateRoad x = new GateRoad();
        Host.fill(x, 3, 9, 9, 9, 1, 0, 24, 9, 0, 0, 1, 0);
        DUE.is("from an odd place on", x.rates(3, 2, 3, 2), 2);
        DUE.is("gate 1 in 23", x.gateTold(1, 23, 0), 9);
        DUE.is("the second comes behind the first", x.gateTold(0, 0, 0), 0);
        x.rate(0, 0, 1, 0);
        DUE.is("what was 0 is told too", x.rates(3, 2, 7, 1), 1);
        // The same rates told twice: the later one stands.
        Host.fill(x, 3, 0, 5, 9, 3, 0, 6, 8, 4);
        DUE.is("one behind the other", x.rates(3, 2, 0, 2), 2);
        int[] want = {1, 3, 4, 4, 3, 1};
        for (int t = 4; t < 10; t++) {
            DUE.is("in " + t, x.gateTold(0, t, 0), want[t - 4]);
        }
    }

    private static void ratesLeftOut() {
        DUE.promise(34, "how many were told (others are left out).");
        int[][] bad = {{-1, 0, 1, 5}, {2, 0, 1, 5}, {0, -1, 1, 5}, {0, 24, 25, 5}, {0, 0, 0, 5}, {0, 3, 3, 5}, {0, 3, 2, 5},
            {0, 3, 25, 5}, {0, 0, 1, -1}, {0, 0, 1, 10}, {MAX, MIN, MAX, MIN}};
        for (int[] b : bad) {
            GateRoad x = new GateRoad();
            Host.fill(x, 0, 0, 7, 8, 2, b[0], b[1], b[2], b[3], 1, 8, 9, 3);
            DUE.is("two of three, left out: " + java.util.Arrays.toString(b), x.rates(0, 2, 0, 3), 2);
            DUE.is("the one ahead", x.gateTold(0, 7, 0), 2);
            DUE.is("the one behind", x.gateTold(1, 8, 0), 3);
            int all = 0;
            for (int t = 0; t < 24; t++) {
                all += x.gateTold(0, t, 0) + x.gateTold(1, t, 0);
            }
            DUE.is("no other", all, 48 + 1 + 2);
            DUE.is("none of one", x.rates(0, 2, 4, 1), 0);
        }
    }

    private static void ratesRefused() {
        DUE.promise(34, "BAD: SHEET, sort, n; -11; -13;");
        for (int s : NO_SHEETS) {
            SOME.unchanged("sheet " + s, y -> y.rates(s, 2, 0, 1), GateRoad.BAD);
        }
        for (int sort : new int[] {-1, 3, MIN, MAX}) {
            SOME.unchanged("sort " + sort, y -> y.rates(0, sort, 0, 0), GateRoad.BAD);
            SOME.unchanged("sort " + sort + " of a missing one", y -> y.rates(3, sort, 0, 0), GateRoad.BAD);
        }
        for (int n : new int[] {-1, 11, MIN, MAX}) {
            SOME.unchanged("n " + n, y -> y.rates(0, 2, 0, n), GateRoad.BAD);
            SOME.unchanged("n " + n + " of a missing one", y -> y.rates(3, 2, 0, n), GateRoad.BAD);
            SOME.unchanged("n " + n + " of another sort", y -> y.rates(1, 2, 0, n), GateRoad.BAD);
        }
        for (int sort = 0; sort <= 2; sort++) {
            int of = sort;
            SOME.unchanged("a missing one, outside", y -> y.rates(3, of, -1, 10), -11);
            SOME.unchanged("sheet 0 for sort " + sort, y -> y.rates(0, of, 0, 0), sort == 2 ? 0 : -13);
            SOME.unchanged("sheet 1 for sort " + sort, y -> y.rates(1, of, 0, 0), sort == 1 ? 0 : -13);
            SOME.unchanged("sheet 1 for sort " + sort + ", outside", y -> y.rates(1, of, 9, 1), sort == 1 ? -12 : -13);
        }
    }

    private static void ratesOutside() {
        DUE.promise(34, "-12: what stood ahead was.");
        Twins ten = new Twins(DUE, EdgesOfHostTest::tenRates);
        for (int at : new int[] {-1, -4, 37, 40, MIN, MAX, MAX - 3}) {
            ten.unchanged("the first from " + at, y -> y.rates(2, 2, at, 1), -12);
            ten.unchanged("ten from " + at, y -> y.rates(0, 0, at, 10), -12);
        }
        SOME.unchanged("the first of three numbers", y -> y.rates(0, 2, 0, 1), -12);
        GateRoad x = tenRates();
        DUE.is("three from 32", x.rates(2, 2, 32, 3), -12);
        DUE.is("the first was told", x.gateTold(0, 8, 0), 4);
        DUE.is("the second was told", x.gateTold(0, 9, 0), 4);
        GateRoad y = new GateRoad();
        Host.fill(y, 0, 0, 5, 6, 7, 0, 0, 0, 0, 1, 5, 6, 7, 0, 7, 8);
        DUE.is("the fourth lacks a number", y.rates(0, 2, 0, 4), -12);
        DUE.is("the first of it was told", y.gateTold(0, 5, 0), 7);
        DUE.is("the third of it was told", y.gateTold(1, 5, 0), 7);
        DUE.is("the fourth was not", y.gateTold(0, 7, 0), 1);
        SOME.unchanged("none, from outside", z -> z.rates(0, 2, -1, 0), 0);
        SOME.unchanged("none, from far outside", z -> z.rates(0, 2, MAX, 0), 0);
    }

    private static void takenCarts() {
        DUE.promise(35, "What lies at place i: 0 .. 15 CARTS, 16 .. 23 WAYS");
        for (int i = 0; i < 16; i++) {
            int place = i;
            FULL.unchanged("cart " + i, y -> y.taken(place, 6), i % 4);
        }
        for (int i = 16; i < 24; i++) {
            int place = i;
            FULL.unchanged("way " + (i - 16), y -> y.taken(place, 0), i - 16);
        }
    }

    private static void takenWays() {
        DUE.promise(35, "taken for 0 .. 5 a WAY of that KIND (also of one that is one): its number; 6 a CART: its SORT.");
        GateRoad x = Twins.full();
        // Of the kinds 0 .. 5, then 0 and 1, the ways are; above each is what it is, too.
        boolean[][] is = {{true, false, false, false, false, false}, {true, true, false, false, false, false},
            {true, false, true, false, false, false}, {true, false, true, true, false, false},
            {true, false, false, false, true, false}, {true, true, false, false, false, true}};
        for (int w = 0; w < 8; w++) {
            for (int kind = 0; kind <= 5; kind++) {
                DUE.is("way " + w + " for kind " + kind, x.taken(16 + w, kind), is[w % 6][kind] ? w : -13);
            }
            DUE.is("way " + w + " for a cart", x.taken(16 + w, 6), -13);
        }
        for (int c = 0; c < 16; c++) {
            for (int kind = 0; kind <= 5; kind++) {
                DUE.is("cart " + c + " for kind " + kind, x.taken(c, kind), -13);
            }
            DUE.is("cart " + c, x.taken(c, 6), c % 4);
        }
    }

    private static void takenRefused() {
        DUE.promise(35, "BAD: kind; -12: i; -11: nothing lies there; -13.");
        for (int kind : new int[] {-1, 7, MIN, MAX}) {
            SOME.unchanged("kind " + kind, y -> y.taken(0, kind), GateRoad.BAD);
            SOME.unchanged("kind " + kind + ", outside", y -> y.taken(24, kind), GateRoad.BAD);
            SOME.unchanged("kind " + kind + ", where nothing lies", y -> y.taken(3, kind), GateRoad.BAD);
        }
        for (int i : new int[] {-1, 24, MIN, MAX}) {
            for (int kind = 0; kind <= 6; kind++) {
                int asked = kind;
                SOME.unchanged("place " + i + ", kind " + kind, y -> y.taken(i, asked), -12);
            }
        }
        for (int i : new int[] {3, 15, 18, 23}) {
            for (int kind = 0; kind <= 6; kind++) {
                int asked = kind;
                SOME.unchanged("nothing lies at " + i + ", kind " + kind, y -> y.taken(i, asked), -11);
            }
        }
        for (int kind = 0; kind <= 5; kind++) {
            int asked = kind;
            SOME.unchanged("cart 2 for kind " + kind, y -> y.taken(2, asked), -13);
        }
        SOME.unchanged("way 0, which is TOLLED, for a cart", y -> y.taken(16, 6), -13);
        SOME.unchanged("way 0 for SORTED", y -> y.taken(16, 5), -13);
        SOME.unchanged("way 1, which is LAST, for TOLLED", y -> y.taken(17, 1), -13);
    }

    private static void lastCall() {
        DUE.intro("An object is used for at most 512 calls after it has been made");
        // The dearest, as many as there can be between the 35 that make SOME and the last.
        GateRoad x = Twins.some();
        for (int calls = 35; calls < 511; calls++) {
            DUE.is("none of a way's carts waits for long", x.finest(calls % 2, calls % 2, calls % 24, 1), 0);
        }
        DUE.is("of the last call", x.sum(0, 0), 1 + 50);
        // Five calls of feed() and one of text() for each fault, three for the text behind them.
        GateRoad y = new GateRoad();
        for (int calls = 0; calls + 6 <= 509; calls += 6) {
            DUE.is("a fault", Host.text(y, "cost ((((((wait + late * 2))))));lost 0;"), -110);
        }
        DUE.is("a text", Host.text(y, "cost 1;lost 1;"), 1);
    }
}
