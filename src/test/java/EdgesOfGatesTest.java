/** Promises 1 to 8, and what "Terms" say of gates, sorts and carts: each sentence at its bounds. */
public final class EdgesOfGatesTest {
    private static final Due DUE = new Due("EdgesOfGatesTest");
    private static final Twins SOME = new Twins(DUE, Twins::some);
    private static final Twins FULL = new Twins(DUE, Twins::full);
    private static final int MIN = Integer.MIN_VALUE, MAX = Integer.MAX_VALUE;
    private static final int[] NO_GATES = {-1, 2, MIN, MAX}, NO_MINUTES = {-1, 24, MIN, MAX};
    private static final int[] NO_RATES = {-1, 10, MIN, MAX}, NO_TOLLS = {-1, 100, MIN, MAX};

    public static void main(String[] args) {
        minutesAndGates();
        rateBounds();
        tollBounds();
        sortNumbers();
        sortParts();
        cartNumbers();
        newObject();
        nothingThereYet();
        rateFromAMinuteOn();
        rateAheadOfAnother();
        rateWas();
        rateRefused();
        tollWas();
        tollRefused();
        sortRoads();
        sortBad();
        sortFull();
        cartNumber();
        cartRefused();
        wishedMinute();
        wishesRefused();
        gateTold();
        gateToldRefused();
        sortTold();
        sortToldRefused();
        DUE.end();
    }

    private static void minutesAndGates() {
        DUE.terms("MINUTES 0 .. 23, GATES 0, 1: for each MINUTE");
        GateRoad x = new GateRoad();
        for (int t = 0; t <= 23; t++) {
            DUE.is("rate of gate 0 in " + t, x.rate(0, t, t + 1, t % 10), 1);
            DUE.is("rate of gate 1 in " + t, x.rate(1, t, t + 1, 9 - t % 10), 1);
            DUE.is("toll of gate 0 in " + t, x.toll(0, t, t), 0);
            DUE.is("toll of gate 1 in " + t, x.toll(1, t, 99 - t), 0);
        }
        for (int t = 0; t <= 23; t++) {
            DUE.is("rate of gate 0 in " + t + " is its own", x.gateTold(0, t, 0), t % 10);
            DUE.is("rate of gate 1 in " + t + " is its own", x.gateTold(1, t, 0), 9 - t % 10);
            DUE.is("toll of gate 0 in " + t + " is its own", x.gateTold(0, t, 1), t);
            DUE.is("toll of gate 1 in " + t + " is its own", x.gateTold(1, t, 1), 99 - t);
        }
        for (int t : NO_MINUTES) {
            DUE.is("minute " + t, x.toll(0, t, 0), GateRoad.NONE);
        }
        for (int g : NO_GATES) {
            DUE.is("gate " + g, x.toll(g, 0, 0), GateRoad.NONE);
        }
    }

    private static void rateBounds() {
        DUE.terms("a RATE (0 .. 9; 1 at first)");
        GateRoad x = new GateRoad();
        for (int t = 0; t < 24; t++) {
            DUE.is("at first, gate 0 in " + t, x.gateTold(0, t, 0), 1);
            DUE.is("at first, gate 1 in " + t, x.gateTold(1, t, 0), 1);
        }
        DUE.is("the least", x.rate(0, 3, 4, 0), 1);
        DUE.is("the least is taken", x.gateTold(0, 3, 0), 0);
        DUE.is("the most", x.rate(0, 3, 4, 9), 0);
        DUE.is("the most is taken", x.gateTold(0, 3, 0), 9);
        DUE.is("below the least", x.rate(0, 3, 4, -1), GateRoad.BAD);
        DUE.is("above the most", x.rate(0, 3, 4, 10), GateRoad.BAD);
        DUE.is("neither is taken", x.gateTold(0, 3, 0), 9);
    }

    private static void tollBounds() {
        DUE.terms("and a TOLL (0 .. 99; 0 at first)");
        GateRoad x = new GateRoad();
        for (int t = 0; t < 24; t++) {
            DUE.is("at first, gate 0 in " + t, x.gateTold(0, t, 1), 0);
            DUE.is("at first, gate 1 in " + t, x.gateTold(1, t, 1), 0);
        }
        DUE.is("the most", x.toll(1, 0, 99), 0);
        DUE.is("the most is taken", x.gateTold(1, 0, 1), 99);
        DUE.is("below the least", x.toll(1, 0, -1), GateRoad.BAD);
        DUE.is("above the most", x.toll(1, 0, 100), GateRoad.BAD);
        DUE.is("neither is taken", x.gateTold(1, 0, 1), 99);
        DUE.is("the least", x.toll(1, 0, 0), 99);
        DUE.is("the least is taken", x.gateTold(1, 0, 1), 0);
    }

    private static void sortNumbers() {
        DUE.terms("SORTS are numbered from 0 on, 4 at most");
        GateRoad x = new GateRoad();
        for (int s = 0; s < 4; s++) {
            DUE.is("no sort " + s + " yet", x.sortTold(s, 0), -5);
            DUE.is("sort " + s, x.sort(s, 0, 0, 0), s);
            DUE.is("how many", x.count(0), s + 1);
        }
        DUE.is("one more", x.sort(5, 0, 0, 0), GateRoad.FULL);
        DUE.is("still four", x.count(0), 4);
        DUE.is("no sort 4", x.sortTold(4, 0), -5);
    }

    private static void sortParts() {
        DUE.terms("a WISHED MINUTE, what STAYING costs (0 .. 999), how many MINUTES the road to each GATE takes"
                + " (0 .. 9 each)");
        GateRoad x = new GateRoad();
        DUE.is("all the least", x.sort(0, 0, 0, 0), 0);
        DUE.is("all the most", x.sort(23, 999, 9, 9), 1);
        int[] most = {23, 999, 9, 9};
        for (int what = 0; what < 4; what++) {
            DUE.is("the least, " + what, x.sortTold(0, what), 0);
            DUE.is("the most, " + what, x.sortTold(1, what), most[what]);
        }
        for (int t : NO_MINUTES) {
            DUE.is("wished " + t, x.sort(t, 0, 0, 0), GateRoad.BAD);
        }
        for (int v : new int[] {-1, 1000, MIN, MAX}) {
            DUE.is("staying " + v, x.sort(0, v, 0, 0), GateRoad.BAD);
        }
        for (int v : new int[] {-1, 10, MIN, MAX}) {
            DUE.is("road to gate 0: " + v, x.sort(0, 0, v, 0), GateRoad.BAD);
            DUE.is("road to gate 1: " + v, x.sort(0, 0, 0, v), GateRoad.BAD);
        }
        DUE.is("none of these is a sort", x.count(0), 2);
    }

    private static void cartNumbers() {
        DUE.terms("CARTS are numbered from 0 on, 16 at most, each of a SORT.");
        GateRoad x = new GateRoad();
        for (int s = 0; s < 4; s++) {
            x.sort(0, 0, 0, 0);
        }
        for (int c = 0; c < 16; c++) {
            DUE.is("no cart " + c + " yet", x.taken(c, 6), -11);
            DUE.is("cart " + c, x.cart(3 - c / 4), c);
            DUE.is("how many", x.count(1), c + 1);
        }
        for (int c = 0; c < 16; c++) {
            DUE.is("the sort of cart " + c, x.taken(c, 6), 3 - c / 4);
        }
        DUE.is("one more", x.cart(0), GateRoad.FULL);
        DUE.is("still sixteen", x.count(1), 16);
    }

    private static void newObject() {
        DUE.promise(1, "No SORTS, CARTS.");
        GateRoad x = new GateRoad();
        DUE.is("sorts", x.count(0), 0);
        DUE.is("carts", x.count(1), 0);
        DUE.is("sort 0", x.sortTold(0, 0), -5);
        DUE.is("a cart of sort 0", x.cart(0), GateRoad.NONE);
        DUE.is("cart 0", x.taken(0, 6), -11);
        DUE.is("the first sort's number", x.sort(0, 0, 0, 0), 0);
        DUE.is("the first cart's number", x.cart(0), 0);
    }

    private static void nothingThereYet() {
        DUE.promise(1, "No SORTS, CARTS.");
        GateRoad x = new GateRoad();
        x.sheet(0, 2, 0);
        DUE.is("a way for no carts", x.way(4, 0), 0);
        DUE.is("for how many", x.wayTold(0, -2), 0);
        DUE.is("cart 0's choice", x.wayTold(0, 0), -7);
        DUE.is("set cart 0's", x.set(0, 0, 0), -5);
        DUE.is("of cart 0", x.of(0, 0, 0), -10000);
        DUE.is("waiting", x.line(0, 0, 23), 0);
        DUE.is("how many pass", x.passes(0, -1), 0);
        DUE.is("the first that passes", x.passes(0, 0), GateRoad.NONE);
        for (int what = 0; what < 4; what++) {
            DUE.is("sum " + what, x.sum(0, what), 0);
        }
        DUE.is("restless", x.judge(0, 0), GateRoad.NONE);
        DUE.is("moves", x.rest(0, 8), 0);
        DUE.is("other", x.other(0, 0, 0), -10000);
        DUE.is("swap", x.swap(0, 0, 1), -5);
        DUE.is("beside", x.beside(0, 0, 0, 9), 0);
        DUE.is("sticks, above", x.sticks(0, 0, 0, 5, 0), 0);
        DUE.is("sticks, below", x.sticks(0, 0, 0, 5, 1), 1);
        DUE.is("shift", x.shift(0, 23), 0);
        DUE.is("finest", x.finest(0, 0, 0, 1), 0);
        DUE.is("split", x.split(0, 0, 48, 0), 0);
        DUE.is("split, cost", x.split(0, 0, 48, 1), 0);
        DUE.is("image", x.image(), 1);
        DUE.is("back", x.back(), 1);
    }

    private static void rateFromAMinuteOn() {
        DUE.promise(2, "RATE of a GATE becomes n from a MINUTE on");
        GateRoad x = new GateRoad();
        DUE.is("from 10 on", x.rate(1, 10, 24, 5), 1);
        for (int t = 0; t < 24; t++) {
            DUE.is("gate 1 in " + t, x.gateTold(1, t, 0), t < 10 ? 1 : 5);
            DUE.is("gate 0 in " + t, x.gateTold(0, t, 0), 1);
        }
        DUE.is("from the last", x.rate(1, 23, 24, 6), 5);
        DUE.is("the last", x.gateTold(1, 23, 0), 6);
        DUE.is("the one ahead of the last", x.gateTold(1, 22, 0), 5);
        DUE.is("from the first", x.rate(1, 0, 24, 7), 1);
        DUE.is("the first", x.gateTold(1, 0, 0), 7);
        DUE.is("and to the last", x.gateTold(1, 23, 0), 7);
    }

    private static void rateAheadOfAnother() {
        DUE.promise(2, "ahead of another one (1 .. 24, above it)");
        GateRoad x = new GateRoad();
        DUE.is("the least: 1", x.rate(0, 0, 1, 2), 1);
        DUE.is("in 0", x.gateTold(0, 0, 0), 2);
        DUE.is("not in 1", x.gateTold(0, 1, 0), 1);
        DUE.is("the most: 24", x.rate(0, 22, 24, 3), 1);
        DUE.is("in 23", x.gateTold(0, 23, 0), 3);
        DUE.is("ahead of 23", x.rate(0, 20, 23, 4), 1);
        DUE.is("in 22", x.gateTold(0, 22, 0), 4);
        DUE.is("no more in 23", x.gateTold(0, 23, 0), 3);
        for (int to : new int[] {0, -1, 25, MIN, MAX}) {
            SOME.unchanged("to " + to + " from 0", y -> y.rate(0, 0, to, 2), GateRoad.BAD);
        }
        SOME.unchanged("to 25 from 23", y -> y.rate(0, 23, 25, 2), GateRoad.BAD);
        SOME.unchanged("to where it begins", y -> y.rate(0, 7, 7, 2), GateRoad.BAD);
        SOME.unchanged("to one below where it begins", y -> y.rate(0, 7, 6, 2), GateRoad.BAD);
        SOME.unchanged("to 23 from 23", y -> y.rate(0, 23, 23, 2), GateRoad.BAD);
    }

    private static void rateWas() {
        DUE.promise(2, "what it was in the first of these.");
        GateRoad x = new GateRoad();
        x.rate(0, 0, 4, 3);
        x.rate(0, 4, 8, 0);
        x.rate(0, 8, 12, 9);
        DUE.is("the first has 3", x.rate(0, 3, 9, 5), 3);
        DUE.is("the first has what was told last", x.rate(0, 8, 12, 6), 5);
        DUE.is("0 is an answer too", x.rate(1, 5, 6, 0) + x.rate(1, 5, 6, 2), 1);
        DUE.is("as it was", x.rate(1, 5, 6, 2), 2);
    }

    private static void rateRefused() {
        DUE.promise(2, "NONE: GATE, MINUTE; BAD.");
        for (int g : NO_GATES) {
            SOME.unchanged("gate " + g, y -> y.rate(g, 0, 1, 1), GateRoad.NONE);
            SOME.unchanged("gate " + g + ", and all else bad", y -> y.rate(g, 24, 0, 10), GateRoad.NONE);
        }
        for (int t : NO_MINUTES) {
            SOME.unchanged("minute " + t, y -> y.rate(1, t, 24, 1), GateRoad.NONE);
            SOME.unchanged("minute " + t + ", and all else bad", y -> y.rate(1, t, 0, 10), GateRoad.NONE);
        }
        SOME.unchanged("minute 24 ahead of 25", y -> y.rate(1, 24, 25, 1), GateRoad.NONE);
        for (int n : NO_RATES) {
            SOME.unchanged("n " + n, y -> y.rate(1, 0, 24, n), GateRoad.BAD);
        }
    }

    private static void tollWas() {
        DUE.promise(3, "TOLL of a GATE in a MINUTE: what it was.");
        GateRoad x = new GateRoad();
        DUE.is("the first minute", x.toll(0, 0, 7), 0);
        DUE.is("what it was", x.toll(0, 0, 99), 7);
        DUE.is("as much again", x.toll(0, 0, 99), 99);
        DUE.is("the last minute", x.toll(1, 23, 8), 0);
        for (int g = 0; g < 2; g++) {
            for (int t = 0; t < 24; t++) {
                int want = g == 0 && t == 0 ? 99 : g == 1 && t == 23 ? 8 : 0;
                DUE.is("toll of " + g + " in " + t, x.gateTold(g, t, 1), want);
                DUE.is("rate of " + g + " in " + t, x.gateTold(g, t, 0), 1);
            }
        }
    }

    private static void tollRefused() {
        DUE.promise(3, "NONE: GATE, MINUTE; BAD.");
        for (int g : NO_GATES) {
            SOME.unchanged("gate " + g, y -> y.toll(g, 9, 1), GateRoad.NONE);
            SOME.unchanged("gate " + g + ", and bad", y -> y.toll(g, 24, 100), GateRoad.NONE);
        }
        for (int t : NO_MINUTES) {
            SOME.unchanged("minute " + t, y -> y.toll(0, t, 1), GateRoad.NONE);
            SOME.unchanged("minute " + t + ", and bad", y -> y.toll(0, t, -1), GateRoad.NONE);
        }
        for (int v : NO_TOLLS) {
            SOME.unchanged("toll " + v, y -> y.toll(0, 9, v), GateRoad.BAD);
        }
    }

    private static void sortRoads() {
        DUE.promise(4, "A SORT (road to GATE 0, to GATE 1): its number.");
        GateRoad x = new GateRoad();
        DUE.is("the first", x.sort(4, 5, 0, 9), 0);
        DUE.is("the second", x.sort(6, 7, 9, 0), 1);
        Host.carts(x, 0, 0, 1, 1);
        Host.way(x, 0, 5, 24 + 5, 5, 24 + 5);
        DUE.is("sort 0 to gate 0", x.of(0, 0, 0), 5);
        DUE.is("sort 0 to gate 1", x.of(0, 1, 0), 14);
        DUE.is("sort 1 to gate 0", x.of(0, 2, 0), 14);
        DUE.is("sort 1 to gate 1", x.of(0, 3, 0), 5);
    }

    private static void sortBad() {
        DUE.promise(4, "BAD;");
        int[][] bad = {{-1, 0, 0, 0}, {24, 0, 0, 0}, {0, -1, 0, 0}, {0, 1000, 0, 0}, {0, 0, -1, 0}, {0, 0, 10, 0},
            {0, 0, 0, -1}, {0, 0, 0, 10}, {MIN, 0, 0, 0}, {MAX, 0, 0, 0}, {0, MIN, 0, 0}, {0, MAX, 0, 0}, {0, 0, MIN, 0},
            {0, 0, MAX, 0}, {0, 0, 0, MIN}, {0, 0, 0, MAX}};
        for (int[] b : bad) {
            String what = "sort " + java.util.Arrays.toString(b);
            SOME.unchanged(what, y -> y.sort(b[0], b[1], b[2], b[3]), GateRoad.BAD);
            FULL.unchanged(what + " beyond the fourth", y -> y.sort(b[0], b[1], b[2], b[3]), GateRoad.BAD);
        }
    }

    private static void sortFull() {
        DUE.promise(4, "FULL.");
        FULL.unchanged("a fifth", y -> y.sort(0, 0, 0, 0), GateRoad.FULL);
        FULL.unchanged("a fifth of the most", y -> y.sort(23, 999, 9, 9), GateRoad.FULL);
    }

    private static void cartNumber() {
        DUE.promise(5, "A CART: its number.");
        GateRoad x = Twins.some();
        DUE.is("behind three", x.cart(1), 3);
        DUE.is("its sort", x.taken(3, 6), 1);
        DUE.is("how many", x.count(1), 4);
        DUE.is("it is in no way that stands", x.wayTold(0, -2), 3);
    }

    private static void cartRefused() {
        DUE.promise(5, "NONE; FULL.");
        for (int s : new int[] {-1, 2, MIN, MAX}) {
            SOME.unchanged("of sort " + s, y -> y.cart(s), GateRoad.NONE);
        }
        FULL.unchanged("a seventeenth", y -> y.cart(3), GateRoad.FULL);
        FULL.unchanged("a seventeenth of no sort", y -> y.cart(4), GateRoad.NONE);
        FULL.unchanged("a seventeenth of sort -1", y -> y.cart(-1), GateRoad.NONE);
    }

    private static void wishedMinute() {
        DUE.promise(6, "WISHED MINUTE of a SORT: what it was.");
        GateRoad x = Twins.some();
        DUE.is("the least", x.wishes(0, 0), 10);
        DUE.is("what it was", x.wishes(0, 23), 0);
        DUE.is("the most", x.sortTold(0, 0), 23);
        DUE.is("the other sort's", x.sortTold(1, 0), 9);
        DUE.is("what staying costs", x.sortTold(0, 1), 50);
        // Cart 0 comes to gate 0 in 10 and passes then.
        x.set(0, 0, 8);
        DUE.is("it passes thirteen too early", x.of(0, 0, 2), 13);
    }

    private static void wishesRefused() {
        DUE.promise(6, "-5: no such SORT; -7: MINUTE.");
        for (int s : new int[] {-1, 2, MIN, MAX}) {
            SOME.unchanged("sort " + s, y -> y.wishes(s, 0), -5);
            SOME.unchanged("sort " + s + ", and no minute", y -> y.wishes(s, 24), -5);
        }
        for (int t : NO_MINUTES) {
            SOME.unchanged("minute " + t, y -> y.wishes(1, t), -7);
        }
        FULL.unchanged("sort 4", y -> y.wishes(4, 0), -5);
        DUE.is("when there is no sort", new GateRoad().wishes(0, 24), -5);
    }

    private static void gateTold() {
        DUE.promise(7, "Of a GATE in a MINUTE what 0 RATE, 1 TOLL.");
        GateRoad x = new GateRoad();
        x.rate(0, 0, 1, 9);
        x.toll(0, 0, 55);
        x.rate(1, 23, 24, 0);
        x.toll(1, 23, 99);
        DUE.is("rate of the first", x.gateTold(0, 0, 0), 9);
        DUE.is("toll of the first", x.gateTold(0, 0, 1), 55);
        DUE.is("rate of the last", x.gateTold(1, 23, 0), 0);
        DUE.is("toll of the last", x.gateTold(1, 23, 1), 99);
        DUE.is("rate of gate 0 in 23", x.gateTold(0, 23, 0), 1);
        DUE.is("toll of gate 1 in 0", x.gateTold(1, 0, 1), 0);
        SOME.unchanged("to ask", y -> y.gateTold(0, 9, 1), 4);
    }

    private static void gateToldRefused() {
        DUE.promise(7, "-5: GATE, MINUTE; -7: what.");
        for (int g : NO_GATES) {
            SOME.unchanged("gate " + g, y -> y.gateTold(g, 0, 0), -5);
            SOME.unchanged("gate " + g + ", and no such what", y -> y.gateTold(g, 0, 2), -5);
        }
        for (int t : NO_MINUTES) {
            SOME.unchanged("minute " + t, y -> y.gateTold(1, t, 1), -5);
            SOME.unchanged("minute " + t + ", and no such what", y -> y.gateTold(1, t, -1), -5);
        }
        for (int what : new int[] {-1, 2, MIN, MAX}) {
            SOME.unchanged("what " + what, y -> y.gateTold(0, 0, what), -7);
        }
    }

    private static void sortTold() {
        DUE.promise(8, "Of a SORT what 0 WISHED MINUTE, 1 what STAYING costs, 2, 3 the road to GATE 0, 1.");
        GateRoad x = new GateRoad();
        int[][] parts = {{1, 2, 3, 4}, {23, 999, 9, 0}, {0, 0, 0, 9}, {5, 6, 7, 8}};
        for (int[] p : parts) {
            x.sort(p[0], p[1], p[2], p[3]);
        }
        for (int s = 0; s < 4; s++) {
            for (int what = 0; what < 4; what++) {
                DUE.is("sort " + s + ", " + what, x.sortTold(s, what), parts[s][what]);
            }
        }
        SOME.unchanged("to ask", y -> y.sortTold(1, 1), 20);
    }

    private static void sortToldRefused() {
        DUE.promise(8, "-5: no such SORT; -7: what.");
        for (int s : new int[] {-1, 2, MIN, MAX}) {
            SOME.unchanged("sort " + s, y -> y.sortTold(s, 0), -5);
            SOME.unchanged("sort " + s + ", and no such what", y -> y.sortTold(s, 4), -5);
        }
        for (int what : new int[] {-1, 4, MIN, MAX}) {
            SOME.unchanged("what " + what, y -> y.sortTold(1, what), -7);
        }
        FULL.unchanged("sort 4", y -> y.sortTold(4, 0), -5);
        DUE.is("when there is no sort", new GateRoad().sortTold(0, 4), -5);
    }
}
