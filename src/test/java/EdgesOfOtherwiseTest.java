/** Promises 23 to 30, and what "Terms" say of an image: each sentence at its bounds. */
public final class EdgesOfOtherwiseTest {
    private static final Due DUE = new Due("EdgesOfOtherwiseTest");
    private static final Twins SOME = new Twins(DUE, Twins::some);
    private static final Twins FULL = new Twins(DUE, Twins::full);
    private static final int MIN = Integer.MIN_VALUE, MAX = Integer.MAX_VALUE;
    private static final int[] NO_GATES = {-1, 2, MIN, MAX}, NO_MINUTES = {-1, 24, MIN, MAX};
    private static final int[] NO_CHOICES = {-1, 49, MIN, MAX};
    // Of the object that SOME makes: it has two ways.
    private static final int[] NO_WAYS = {-1, 2, 8, MIN, MAX};

    public static void main(String[] args) {
        beside();
        besideOneMinute();
        besideMost();
        besideRefused();
        sticks();
        sticksInLowestTerms();
        sticksNought();
        sticksRefused();
        shift();
        shiftBounds();
        shiftRefused();
        finestToll();
        finestMoves();
        finestWaited();
        finestStranded();
        finestLikeOnes();
        finestRefused();
        split();
        splitLikeOnes();
        splitRefused();
        count();
        countRefused();
        imageKeeps();
        whatCameSince();
        image();
        back();
        backRefused();
        DUE.end();
    }

    /** Carts of one sort, on roads of none, wished for in 10, staying so much; a way of a kind by these choices. */
    private static GateRoad by(int kind, int stays, int... choices) {
        GateRoad x = new GateRoad();
        x.sort(10, stays, 0, 0);
        for (int i = 0; i < choices.length; i++) {
            x.cart(0);
        }
        Host.way(x, kind, choices);
        return x;
    }

    private static void rule(GateRoad x, String cost) {
        x.force(Host.text(x, "cost " + cost + ";lost 0;"));
    }

    private static void beside() {
        DUE.promise(23, "By how much COST of all were more, if RATE of a GATE were n in a MINUTE.");
        GateRoad x = by(0, 50, 10, 10, 10);
        int[] more = {15, 0, 5 - 15, -15, -15, -15, -15, -15, -15, -15};
        for (int n = 0; n <= 9; n++) {
            DUE.is("n " + n, x.beside(0, 0, 10, n), more[n]);
            DUE.is("at the other gate, n " + n, x.beside(0, 1, 10, n), 0);
        }
        Twins twins = new Twins(DUE, () -> by(0, 50, 10, 10, 10));
        twins.unchanged("none in 10", y -> y.beside(0, 0, 10, 0), 15);
        twins.unchanged("nine in 10", y -> y.beside(0, 0, 10, 9), -15);
    }

    private static void besideOneMinute() {
        DUE.promise(23, "in a MINUTE.");
        GateRoad x = by(0, 50, 10, 10, 10);
        DUE.is("the minute ahead", x.beside(0, 0, 9, 0), 0);
        DUE.is("the minute behind", x.beside(0, 0, 11, 0), 10);
        DUE.is("the last of them", x.beside(0, 0, 12, 0), 5);
        DUE.is("behind them all", x.beside(0, 0, 13, 0), 0);
        GateRoad first = by(0, 50, 0);
        DUE.is("in the first minute", first.beside(0, 0, 0, 0), 2 + 9 - 10);
        GateRoad last = by(0, 50, 47);
        DUE.is("in the last minute", last.beside(0, 1, 23, 0), 5000 - 39);
        DUE.is("of the other gate", last.beside(0, 0, 23, 0), 0);
    }

    private static void besideMost() {
        DUE.promise(23, "By how much COST of all were more");
        GateRoad x = by(4, 999, new int[16]);
        rule(x, "-9999");
        x.rate(0, 0, 24, 0);
        DUE.is("nine pass for the least cost", x.beside(0, 0, 23, 9), 9 * (-10001 - 5000));
        x.rate(0, 23, 24, 9);
        DUE.is("nine never pass", x.beside(0, 0, 23, 0), 9 * (5000 + 10001));
    }

    private static void besideRefused() {
        DUE.promise(23, "NO: none such.");
        for (int w : NO_WAYS) {
            SOME.unchanged("way " + w, y -> y.beside(w, 0, 0, 0), GateRoad.NO);
        }
        for (int g : NO_GATES) {
            SOME.unchanged("gate " + g, y -> y.beside(0, g, 0, 0), GateRoad.NO);
        }
        for (int t : NO_MINUTES) {
            SOME.unchanged("minute " + t, y -> y.beside(0, 0, t, 0), GateRoad.NO);
        }
        for (int n : new int[] {-1, 10, MIN, MAX}) {
            SOME.unchanged("n " + n, y -> y.beside(1, 1, 23, n), GateRoad.NO);
        }
    }

    private static void sticks() {
        DUE.promise(24, "COST of all on the whole, if a GATE sticks in a MINUTE (RATE 0) so many times out of ten"
                + " (0 .. 10)");
        GateRoad x = by(0, 50, 10, 10, 10);
        x.rate(0, 10, 11, 9);
        // Nothing as it is, 0 + 5 + 10 and 5 for each of them if it sticks in 10.
        for (int tenths = 0; tenths <= 10; tenths++) {
            DUE.is("above, " + tenths, x.sticks(0, 0, 10, tenths, 0), 3 * tenths);
            DUE.is("below, " + tenths, x.sticks(0, 0, 10, tenths, 1), 1);
            DUE.is("of the other gate, " + tenths, x.sticks(0, 1, 10, tenths, 0), 0);
            DUE.is("in another minute, " + tenths, x.sticks(0, 0, 11, tenths, 0), 0);
        }
        GateRoad y = by(0, 50, 0, 47);
        DUE.is("never, in the first minute", y.sticks(0, 0, 0, 0, 0), 49);
        DUE.is("always, in the first minute", y.sticks(0, 0, 0, 10, 0), 50);
        DUE.is("always, in the last minute", y.sticks(0, 1, 23, 10, 0), 5010);
        y.rate(0, 0, 24, 0);
        DUE.is("where nothing passes anyway", y.sticks(0, 0, 0, 7, 0), 5039);
        Twins twins = new Twins(DUE, () -> by(0, 50, 10, 10, 10));
        twins.unchanged("to ask", z -> z.sticks(0, 0, 10, 10, 0), 30);
    }

    private static void sticksInLowestTerms() {
        DUE.promise(24, "part 0 above, 1 below the line, in lowest terms");
        int[][] want = {{1, 1}, {9, 10}, {4, 5}, {7, 10}, {3, 5}, {1, 2}, {2, 5}, {3, 10}, {1, 5}, {1, 10}, {0, 1}};
        GateRoad x = by(0, 50, 10);
        GateRoad y = by(0, 50, 10);
        // 1, and -1, as it is; nothing if it sticks.
        rule(x, "wait=0");
        rule(y, "-(wait=0)");
        for (int tenths = 0; tenths <= 10; tenths++) {
            DUE.is("above, " + tenths, x.sticks(0, 0, 10, tenths, 0), want[tenths][0]);
            DUE.is("below, " + tenths, x.sticks(0, 0, 10, tenths, 1), want[tenths][1]);
            DUE.is("above, less than nothing, " + tenths, y.sticks(0, 0, 10, tenths, 0), -want[tenths][0]);
            DUE.is("below, less than nothing, " + tenths, y.sticks(0, 0, 10, tenths, 1), want[tenths][1]);
        }
        GateRoad z = by(0, 50, new int[16]);
        z.rate(0, 0, 24, 0);
        DUE.is("sixteen that never pass, above", z.sticks(0, 0, 0, 3, 0), 80000);
        DUE.is("sixteen that never pass, below", z.sticks(0, 0, 0, 3, 1), 1);
        z.rate(0, 23, 24, 1);
        rule(z, "-9999");
        // 75000 less 9999 as it is, 80000 if it sticks.
        DUE.is("many, above", z.sticks(0, 0, 23, 1, 0), 65001L * 9 + 80000);
        DUE.is("many, below", z.sticks(0, 0, 23, 1, 1), 10);
    }

    private static void sticksNought() {
        DUE.promise(24, "(0 by 1).");
        GateRoad x = by(0, 50, 10);
        for (int tenths = 0; tenths <= 10; tenths++) {
            DUE.is("above, " + tenths, x.sticks(0, 0, 9, tenths, 0), 0);
            DUE.is("below, " + tenths, x.sticks(0, 0, 9, tenths, 1), 1);
        }
        // -1 as it is, 1 if it sticks.
        rule(x, "wait*2-1");
        DUE.is("half and half, above", x.sticks(0, 0, 10, 5, 0), 0);
        DUE.is("half and half, below", x.sticks(0, 0, 10, 5, 1), 1);
        DUE.is("less, above", x.sticks(0, 0, 10, 4, 0), -1);
        DUE.is("less, below", x.sticks(0, 0, 10, 4, 1), 5);
        DUE.is("more, above", x.sticks(0, 0, 10, 6, 0), 1);
        DUE.is("more, below", x.sticks(0, 0, 10, 6, 1), 5);
    }

    private static void sticksRefused() {
        DUE.promise(24, "NO: none such.");
        for (int w : NO_WAYS) {
            SOME.unchanged("way " + w, y -> y.sticks(w, 0, 0, 0, 0), GateRoad.NO);
        }
        for (int g : NO_GATES) {
            SOME.unchanged("gate " + g, y -> y.sticks(0, g, 0, 0, 0), GateRoad.NO);
        }
        for (int t : NO_MINUTES) {
            SOME.unchanged("minute " + t, y -> y.sticks(0, 0, t, 0, 0), GateRoad.NO);
        }
        for (int tenths : new int[] {-1, 11, MIN, MAX}) {
            SOME.unchanged("tenths " + tenths, y -> y.sticks(0, 0, 0, tenths, 0), GateRoad.NO);
        }
        for (int part : new int[] {-1, 2, MIN, MAX}) {
            SOME.unchanged("part " + part, y -> y.sticks(0, 0, 0, 0, part), GateRoad.NO);
        }
    }

    private static void shift() {
        DUE.promise(25, "COST of all, if WISHED MINUTES of all SORTS were so many more");
        GateRoad x = new GateRoad();
        x.sort(10, 50, 0, 0);
        x.sort(12, 60, 0, 0);
        Host.carts(x, 0, 1, 0, 1);
        x.rate(1, 0, 24, 0);
        Host.way(x, 0, 10, 12, 48, 24);
        DUE.is("none more", x.shift(0, 0), 5050);
        DUE.is("one more: both early by 1", x.shift(0, 1), 5052);
        DUE.is("one less: both late by 1", x.shift(0, -1), 5056);
        Twins twins = new Twins(DUE, Twins::some);
        twins.unchanged("to ask", y -> y.shift(0, 0), y0());
        twins.unchanged("to ask for more", y -> y.shift(0, 1), y0() + 2);
    }

    /** Of what SOME makes: cart 0 passes in 10, wished for then; cart 1 in 8, for 9; cart 2 stays for 50. */
    private static long y0() {
        return 1 + 50;
    }

    private static void shiftBounds() {
        DUE.promise(25, "(-23 .. 23; 0 .. 23 each, else the bound).");
        GateRoad x = by(0, 50, 10);
        int[][] want = {{-23, 30}, {-22, 30}, {-11, 30}, {-10, 30}, {-9, 27}, {0, 0}, {12, 12}, {13, 13}, {14, 13},
            {22, 13}, {23, 13}};
        for (int[] v : want) {
            DUE.is("by " + v[0], x.shift(0, v[0]), v[1]);
        }
        GateRoad y = new GateRoad();
        y.sort(0, 50, 0, 0);
        y.sort(23, 50, 0, 0);
        Host.carts(y, 0, 1);
        Host.way(y, 0, 0, 23);
        int[][] each = {{-23, 69}, {-22, 66}, {-1, 3}, {0, 0}, {1, 1}, {22, 22}, {23, 23}};
        for (int[] v : each) {
            DUE.is("each has its bound, by " + v[0], y.shift(0, v[0]), v[1]);
        }
        for (int by : new int[] {-24, 24, MIN, MAX}) {
            SOME.unchanged("by " + by, z -> z.shift(0, by), GateRoad.NO);
        }
    }

    private static void shiftRefused() {
        DUE.promise(25, "NO: none such.");
        for (int w : NO_WAYS) {
            SOME.unchanged("way " + w, y -> y.shift(w, 0), GateRoad.NO);
        }
    }

    /** Two carts at gate 0 in 5, where the second waits a minute, if the first does not go elsewhere for more toll. */
    private static GateRoad afraidOfMoreThan(int toll) {
        GateRoad x = by(1, 999, 5, 5);
        rule(x, toll + "<toll");
        x.toll(0, 5, 99);
        return x;
    }

    private static void finestToll() {
        DUE.promise(26, "The TOLL (0 .. 7) of a GATE in a MINUTE by which, with it,");
        for (int toll = 0; toll < 7; toll++) {
            DUE.is("more than " + toll, afraidOfMoreThan(toll).finest(0, 0, 5, 1), toll + 1);
        }
        DUE.is("more than 7, so that none helps", afraidOfMoreThan(7).finest(0, 0, 5, 1), 0);
        DUE.is("of another minute: 99 stays where it is", afraidOfMoreThan(3).finest(0, 0, 6, 1), 0);
        GateRoad x = by(1, 999, 24 + 22, 24 + 22);
        rule(x, "6<toll");
        DUE.is("of the last minute of gate 1", x.finest(0, 1, 23, 1), 7);
        GateRoad y = by(1, 999, 0, 0);
        rule(y, "2<toll");
        DUE.is("of the first minute of gate 0", y.finest(0, 0, 0, 1), 3);
        DUE.is("of the first minute of gate 1", y.finest(0, 1, 0, 1), 0);
        GateRoad half = by(5, 999, 5, 5);
        rule(half, "2<toll");
        DUE.is("of which half is paid", half.finest(0, 0, 5, 1), 6);
    }

    private static void finestMoves() {
        DUE.promise(26, "behind n MOVES (0, 1) at most");
        DUE.is("behind none", afraidOfMoreThan(3).finest(0, 0, 5, 0), 0);
        DUE.is("behind one", afraidOfMoreThan(3).finest(0, 0, 5, 1), 4);
        // The first move, by a toll or none, is cart 0's, which stands at the other gate; a second would be needed.
        GateRoad x = by(1, 999, 24 + 7, 5, 5);
        rule(x, "(3<toll)+(minute=7)");
        DUE.is("behind one, which cart 0 makes", x.finest(0, 0, 5, 1), 0);
        x.set(0, 0, 24 + 8);
        DUE.is("behind one, which cart 1 makes", x.finest(0, 0, 5, 1), 4);
    }

    /** A cart that waits 5 - came at gate 0, or, if its toll is more than 3, in minute 0 .. m at gate 1. */
    private static int waitsAtGate1Till(int m, int came) {
        GateRoad x = by(1, 999, came);
        x.rate(0, 0, 24, 0);
        x.rate(0, 5, 6, 1);
        x.rate(1, 0, 24, 0);
        x.rate(1, m, m + 1, 1);
        rule(x, "3<toll");
        return x.finest(0, 0, 5, 1);
    }

    private static void finestWaited() {
        DUE.promise(26, "least is waited: MINUTES of those that PASS");
        DUE.is("5 or 4", waitsAtGate1Till(4, 0), 4);
        DUE.is("5 or 5", waitsAtGate1Till(5, 0), 0);
        DUE.is("5 or 6", waitsAtGate1Till(6, 0), 0);
        DUE.is("1 or 0", waitsAtGate1Till(0, 4), 4);
        DUE.is("0 or 0", waitsAtGate1Till(0, 5), 0);
        // Who stays waits for nothing.
        GateRoad x = by(1, 0, 4);
        x.rate(0, 4, 5, 0);
        rule(x, "3<toll");
        x.rate(0, 0, 4, 0);
        x.rate(0, 6, 24, 0);
        x.rate(1, 0, 24, 0);
        DUE.is("1, or nothing by staying", x.finest(0, 0, 5, 1), 4);
    }

    /**
     * Gate 0 lets one through in 10, gate 1 one in a minute. Cart 0, which stays, goes to gate 0 by a move, waits 9 and
     * leaves cart 1 behind it; or, if it pays (half of 2 or more), to gate 1, where it waits; cart 1 waits 10 then.
     */
    private static int ifGate1OpensIn(int minute) {
        GateRoad x = new GateRoad();
        x.sort(5, 999, 0, 0);
        x.sort(5, 999, 1, 0);
        Host.carts(x, 1, 0);
        x.rate(0, 0, 24, 0);
        x.rate(0, 10, 11, 1);
        x.rate(1, 0, 24, 0);
        x.rate(1, minute, minute + 1, 1);
        Host.way(x, 5, 48, 0);
        rule(x, "9*(0<toll)");
        return x.finest(0, 0, 10, 1);
    }

    private static void finestStranded() {
        DUE.promise(26, "24 for each that CAME and doesn't");
        DUE.is("9 + 24, or 22 + 10", ifGate1OpensIn(22), 2);
        DUE.is("9 + 24, or 23 + 10", ifGate1OpensIn(23), 0);
    }

    private static void finestLikeOnes() {
        DUE.promise(26, "of like ones the least; nothing changes.");
        DUE.is("4 .. 7 are alike", afraidOfMoreThan(3).finest(0, 0, 5, 1), 4);
        DUE.is("0 .. 7 are alike", by(1, 50, 5, 5).finest(0, 0, 20, 0), 0);
        DUE.is("0 .. 7 are alike for sixteen that pay none", by(0, 50, new int[16]).finest(0, 0, 5, 1), 0);
        Twins twins = new Twins(DUE, () -> afraidOfMoreThan(3));
        twins.unchanged("behind a move", y -> y.finest(0, 0, 5, 1), 4);
        twins.unchanged("behind none", y -> y.finest(0, 0, 5, 0), 0);
        twins.unchanged("at the other gate", y -> y.finest(0, 1, 5, 1), 0);
    }

    private static void finestRefused() {
        DUE.promise(26, "-5: none such; -7: n.");
        for (int w : NO_WAYS) {
            SOME.unchanged("way " + w, y -> y.finest(w, 0, 0, 0), -5);
            SOME.unchanged("way " + w + ", and n 2", y -> y.finest(w, 0, 0, 2), -5);
        }
        for (int g : NO_GATES) {
            SOME.unchanged("gate " + g, y -> y.finest(0, g, 0, 1), -5);
            SOME.unchanged("gate " + g + ", and n -1", y -> y.finest(0, g, 0, -1), -5);
        }
        for (int t : NO_MINUTES) {
            SOME.unchanged("minute " + t, y -> y.finest(0, 1, t, 1), -5);
            SOME.unchanged("minute " + t + ", and n 2", y -> y.finest(0, 1, t, 2), -5);
        }
        for (int n : new int[] {-1, 2, MIN, MAX}) {
            SOME.unchanged("n " + n, y -> y.finest(1, 1, 23, n), -7);
        }
    }

    private static void split() {
        DUE.promise(27, "As if the first n CARTS of a WAY had a CHOICE a, all others b: the n by which COST of all is"
                + " least");
        GateRoad x = by(0, 50, 3, 4, 5);
        DUE.is("one here, two there", x.split(0, 10, 24 + 10, 0), 1);
        DUE.is("none of them", x.split(0, 48, 10, 0), 0);
        DUE.is("all of them", x.split(0, 10, 48, 0), 3);
        DUE.is("all but one: the last stays", x.split(0, 22, 48, 0), 2);
        x.cart(0);
        DUE.is("of those that it is for", x.split(0, 10, 48, 0), 3);
        GateRoad y = by(0, 999, new int[16]);
        y.rate(0, 0, 24, 9);
        DUE.is("all sixteen", y.split(0, 10, 48, 0), 16);
        DUE.is("all sixteen: nine at once", y.split(0, 10, 48, 1), 7 * 5);
        Twins twins = new Twins(DUE, () -> by(0, 50, 3, 4, 5));
        twins.unchanged("the n", z -> z.split(0, 10, 24 + 10, 0), 1);
        twins.unchanged("the cost", z -> z.split(0, 10, 24 + 10, 1), 5);
        // The first n, not just any n: sort 0 wishes 10, sort 1 wishes 20.
        GateRoad s = new GateRoad();
        s.sort(10, 50, 0, 0);
        s.sort(20, 50, 0, 0);
        Host.carts(s, 0, 0, 1, 1);
        s.rate(0, 0, 24, 2);
        Host.way(s, 0, 0, 0, 0, 0);
        DUE.is("the first two", s.split(0, 10, 20, 0), 2);
        DUE.is("they are in time", s.split(0, 10, 20, 1), 0);
        DUE.is("the other way about: all in 10", s.split(0, 20, 10, 0), 0);
        DUE.is("two pass in 11 then, early by 9", s.split(0, 20, 10, 1), 2 * (2 + 9));
    }

    private static void splitLikeOnes() {
        DUE.promise(27, "(what 0; of like ones the least), that COST (1).");
        GateRoad x = by(0, 50, 3, 4, 5);
        DUE.is("1 and 2 are alike", x.split(0, 10, 24 + 10, 0), 1);
        DUE.is("their cost", x.split(0, 10, 24 + 10, 1), 5);
        DUE.is("all are alike", x.split(0, 0, 0, 0), 0);
        DUE.is("their cost: late never, early by 10, 9, 8", x.split(0, 0, 0, 1), 10 + (2 + 9) + (4 + 8));
        DUE.is("all stay", x.split(0, 48, 48, 0), 0);
        DUE.is("staying costs", x.split(0, 48, 48, 1), 150);
        GateRoad empty = by(0, 50);
        DUE.is("no carts", empty.split(0, 0, 48, 0), 0);
        DUE.is("no carts cost nothing", empty.split(0, 0, 48, 1), 0);
        GateRoad y = by(4, 50, new int[16]);
        y.rate(0, 0, 22, 0);
        y.rate(0, 22, 24, 8);
        rule(y, "-9999");
        DUE.is("less than nothing", y.split(0, 48, 0, 1), 16 * -10001);
    }

    private static void splitRefused() {
        DUE.promise(27, "NO: none such.");
        for (int w : NO_WAYS) {
            SOME.unchanged("way " + w, y -> y.split(w, 0, 0, 0), GateRoad.NO);
        }
        for (int choice : NO_CHOICES) {
            SOME.unchanged("a " + choice, y -> y.split(0, choice, 48, 0), GateRoad.NO);
            SOME.unchanged("b " + choice, y -> y.split(0, 48, choice, 1), GateRoad.NO);
        }
        for (int what : new int[] {-1, 2, MIN, MAX}) {
            SOME.unchanged("what " + what, y -> y.split(0, 0, 0, what), GateRoad.NO);
        }
    }

    private static void count() {
        DUE.promise(28, "0 SORTS, 1 CARTS, 2 WAYS, 3 TEXTS, 4 THE RULE, 5 bytes of THE TAPE.");
        int[] none = {0, 0, 0, 1, 0, 0};
        int[] some = {2, 3, 2, 2, 0, 6};
        int[] all = {4, 16, 8, 6, 0, 160};
        for (int what = 0; what < 6; what++) {
            int asked = what;
            DUE.is("of a new object, " + what, new GateRoad().count(what), none[what]);
            SOME.unchanged("of some, " + what, y -> y.count(asked), some[what]);
            FULL.unchanged("of all, " + what, y -> y.count(asked), all[what]);
        }
        GateRoad x = Twins.full();
        x.force(5);
        DUE.is("the rule", x.count(4), 5);
    }

    private static void countRefused() {
        DUE.promise(28, "BAD.");
        for (int what : new int[] {-1, 6, MIN, MAX}) {
            SOME.unchanged("what " + what, y -> y.count(what), GateRoad.BAD);
        }
    }

    private static void imageKeeps() {
        DUE.terms("AN IMAGE keeps RATES, TOLLS, WISHED MINUTES of all SORTS, CHOICES of all WAYS, THE RULE");
        GateRoad x = Twins.full();
        x.image();
        x.rate(0, 0, 24, 8);
        x.rate(1, 0, 24, 9);
        for (int t = 0; t < 24; t++) {
            x.toll(0, t, t + 1);
            x.toll(1, t, 99 - t);
        }
        for (int s = 0; s < 4; s++) {
            x.wishes(s, 23 - s);
        }
        for (int w = 0; w < 8; w++) {
            for (int c = 0; c < 16; c++) {
                x.set(w, c, 48 - c);
            }
        }
        x.force(5);
        DUE.is("back", x.back(), 8);
        for (int t = 0; t < 24; t++) {
            for (int g = 0; g < 2; g++) {
                DUE.is("rate of " + g + " in " + t, x.gateTold(g, t, 0), 1);
                DUE.is("toll of " + g + " in " + t, x.gateTold(g, t, 1), 0);
            }
        }
        for (int s = 0; s < 4; s++) {
            DUE.is("wished by " + s, x.sortTold(s, 0), 5 * s);
        }
        for (int w = 0; w < 8; w++) {
            for (int c = 0; c < 16; c++) {
                DUE.is("way " + w + ", cart " + c, x.wayTold(w, c), 3 * c);
            }
        }
        DUE.is("the rule", x.count(4), 0);
    }

    private static void whatCameSince() {
        DUE.terms("(SORTS, WAYS that came since stay as they are).");
        GateRoad x = Twins.some();
        x.image();
        x.sort(3, 30, 4, 5);
        x.wishes(2, 22);
        x.cart(2);
        Host.way(x, 3, 1, 2, 3, 4);
        x.set(2, 3, 47);
        Host.text(x, "+2;lost 3;");
        DUE.is("back", x.back(), 3);
        DUE.is("sorts", x.count(0), 3);
        int[] sort = {22, 30, 4, 5};
        for (int what = 0; what < 4; what++) {
            DUE.is("the sort that came since, " + what, x.sortTold(2, what), sort[what]);
        }
        DUE.is("carts", x.count(1), 4);
        DUE.is("the cart that came since", x.taken(3, 6), 2);
        DUE.is("ways", x.count(2), 3);
        int[] choices = {1, 2, 3, 47};
        for (int c = 0; c < 4; c++) {
            DUE.is("the way that came since, " + c, x.wayTold(2, c), choices[c]);
        }
        DUE.is("its kind", x.wayTold(2, -1), 3);
        DUE.is("texts", x.count(3), 3);
        DUE.is("the text that came since", x.force(2), 0);
        DUE.is("its cost", x.of(0, 0, 2), 7);
        DUE.is("the tape", x.count(5), 0);
    }

    private static void image() {
        DUE.promise(29, "AN IMAGE is kept: how many WAYS.");
        DUE.is("none", new GateRoad().image(), 0);
        DUE.is("some", Twins.some().image(), 2);
        DUE.is("all", Twins.full().image(), 8);
        GateRoad x = Twins.some();
        x.toll(0, 0, 1);
        x.set(0, 0, 20);
        DUE.is("a second one", x.image(), 2);
        DUE.is("nothing changes", x.wayTold(0, 0), 20);
        x.toll(0, 0, 2);
        x.set(0, 0, 21);
        DUE.is("it stands for the first", x.back(), 2);
        DUE.is("toll as in the second", x.gateTold(0, 0, 1), 1);
        DUE.is("choice as in the second", x.wayTold(0, 0), 20);
    }

    private static void back() {
        DUE.promise(30, "All that it keeps is as in THE IMAGE: how many WAYS there are.");
        // The image stands ahead of the last rate, toll, wish, choice and rule that make SOME.
        GateRoad x = Twins.some();
        for (int again = 0; again < 3; again++) {
            DUE.is("back", x.back(), 2);
            DUE.is("rate of 0 in 4", x.gateTold(0, 4, 0), 1);
            DUE.is("rate of 0 in 5", x.gateTold(0, 5, 0), 2);
            DUE.is("toll of 1 in 20", x.gateTold(1, 20, 1), 99);
            DUE.is("wished by 1", x.sortTold(1, 0), 8);
            DUE.is("way 0, cart 0", x.wayTold(0, 0), 7);
            DUE.is("the rule", x.count(4), 1);
            DUE.is("the tape is not kept", x.count(5), 6);
            x.rate(0, 0, 24, again);
            x.toll(1, 20, again);
            x.wishes(1, again);
            x.set(0, 0, again);
            x.force(0);
        }
        GateRoad y = new GateRoad();
        y.image();
        y.sort(3, 30, 4, 5);
        y.cart(0);
        Host.way(y, 0, 40);
        y.rate(0, 0, 1, 5);
        DUE.is("to where there was nothing: ways that there are", y.back(), 1);
        DUE.is("the rate", y.gateTold(0, 0, 0), 1);
        DUE.is("the way", y.wayTold(0, 0), 40);
        DUE.is("the sort", y.sortTold(0, 0), 3);
    }

    private static void backRefused() {
        DUE.promise(30, "STATE: there is none.");
        DUE.is("a new object", new GateRoad().back(), GateRoad.STATE);
        FULL.unchanged("all but an image", y -> y.back(), GateRoad.STATE);
    }
}
