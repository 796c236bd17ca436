/** Promises 12 to 18: ways, their kinds, the line. */
public final class WaysTest {
    private static final Due DUE = new Due("WaysTest");

    public static void main(String[] args) {
        way();
        wayTold();
        set();
        orders();
        sixteen();
        again();
        tolls();
        spared();
        arrivals();
        costs();
        line();
        passes();
        sum();
        DUE.end();
    }

    private static void way() {
        GateRoad x = new GateRoad();
        x.sort(10, 50, 0, 0);
        Host.carts(x, 0, 0);
        DUE.is("way: kind -1", x.way(-1, 0), -2);
        DUE.is("way: kind 6", x.way(6, 0), -2);
        DUE.is("way: sheet -1", x.way(0, -1), -2);
        DUE.is("way: sheet 4", x.way(0, 4), -2);
        DUE.is("way: a sheet that is missing", x.way(0, 0), -11);
        DUE.is("way: kind ahead of missing", x.way(6, 0), -2);
        Host.fill(x, 0, 1);
        DUE.is("way: too few", x.way(0, 0), -2);
        Host.fill(x, 0, 1, 2, 3);
        DUE.is("way: too many", x.way(0, 0), -2);
        Host.fill(x, 0, -1, 0);
        DUE.is("way: choice -1", x.way(0, 0), -2);
        Host.fill(x, 0, 0, 49);
        DUE.is("way: choice 49", x.way(0, 0), -2);
        DUE.is("way: none so far", x.count(2), 0);
        Host.fillAs(x, 0, 0, 0, 48);
        DUE.is("way by bytes", x.way(5, 0), 0);
        Host.fillAs(x, 0, 1, 24, 47);
        DUE.is("way by shorts", x.way(0, 0), 1);
        for (int w = 2; w < 8; w++) {
            Host.fill(x, 0, w, w + 1);
            DUE.is("way " + w, x.way(w - 2, 0), w);
        }
        DUE.is("a ninth", x.way(0, 0), -4);
        Host.fill(x, 0, 0, 49);
        DUE.is("a ninth that is bad", x.way(0, 0), -2);
        DUE.is("a ninth by no sheet", x.way(0, 2), -11);
        DUE.is("eight ways", x.count(2), 8);
        DUE.is("no way 8", x.wayTold(8, -1), -5);
        DUE.is("the sheet is copied", x.wayTold(7, 1), 8);
    }

    private static void wayTold() {
        GateRoad x = new GateRoad();
        x.sort(10, 50, 0, 0);
        DUE.is("wayTold of none", x.wayTold(0, 0), -5);
        Host.carts(x, 0, 0);
        for (int kind = 0; kind < 6; kind++) {
            Host.way(x, kind, 7, 48);
        }
        x.cart(0);
        for (int w = 0; w < 6; w++) {
            DUE.is("kind of " + w, x.wayTold(w, -1), w);
            DUE.is("carts of " + w, x.wayTold(w, -2), 2);
            DUE.is("choice of cart 0", x.wayTold(w, 0), 7);
            DUE.is("choice of cart 1", x.wayTold(w, 1), 48);
            DUE.is("a cart that came later", x.wayTold(w, 2), -7);
            DUE.is("what -3", x.wayTold(w, -3), -7);
        }
        DUE.is("wayTold: way 6", x.wayTold(6, -3), -5);
        DUE.is("wayTold: way -1", x.wayTold(-1, 0), -5);
        Host.way(x, 0, 1, 2, 3);
        DUE.is("a later way is for three", x.wayTold(6, -2), 3);
        DUE.is("its third", x.wayTold(6, 2), 3);
    }

    private static void set() {
        GateRoad x = new GateRoad();
        x.sort(10, 50, 0, 0);
        Host.carts(x, 0, 0);
        Host.way(x, 0, 7, 8);
        Host.way(x, 0, 9, 10);
        x.cart(0);
        DUE.is("set", x.set(1, 0, 48), 9);
        DUE.is("set 0", x.set(1, 0, 0), 48);
        DUE.is("it is", x.wayTold(1, 0), 0);
        DUE.is("the other cart's", x.wayTold(1, 1), 10);
        DUE.is("the other way's", x.wayTold(0, 0), 7);
        DUE.is("set: way 2", x.set(2, 0, 49), -5);
        DUE.is("set: way -1", x.set(-1, 0, 0), -5);
        DUE.is("set: cart -1", x.set(0, -1, 0), -5);
        DUE.is("set: a cart that it isn't for", x.set(0, 2, 49), -5);
        DUE.is("set: choice -1", x.set(0, 0, -1), -7);
        DUE.is("set: choice 49", x.set(0, 0, 49), -7);
        DUE.is("set: nothing changed", x.wayTold(0, 0), 7);
    }

    /** Four carts that came in 5, 7, 3, 5 and pass from 12 on, one a minute; sorts 0, 1, 0, 1. */
    private static GateRoad four() {
        GateRoad x = new GateRoad();
        x.sort(12, 50, 0, 0);
        x.sort(12, 50, 0, 0);
        Host.carts(x, 0, 1, 0, 1);
        x.rate(0, 0, 12, 0);
        for (int kind = 0; kind < 6; kind++) {
            Host.way(x, kind, 5, 7, 3, 5);
        }
        return x;
    }

    private static final int[][] ORDERS =
            {{2, 0, 3, 1}, {2, 0, 3, 1}, {0, 1, 2, 3}, {3, 0, 1, 2}, {1, 0, 3, 2}, {3, 2, 1, 0}};

    private static void orders() {
        GateRoad x = four();
        for (int w = 0; w < 6; w++) {
            for (int i = 0; i < 4; i++) {
                DUE.is("kind " + w + ": passes(" + i + ")", x.passes(w, i), ORDERS[w][i]);
                DUE.is("kind " + w + ": passed of that", x.of(w, ORDERS[w][i], 1), 12 + i);
            }
        }
    }

    /** Sixteen carts come in 0 and pass one a minute from then on, the last ones in 15. */
    private static void sixteen() {
        GateRoad x = new GateRoad();
        x.sort(12, 50, 0, 0);
        int[] choices = new int[16];
        for (int c = 0; c < 16; c++) {
            x.cart(0);
        }
        for (int kind = 0; kind < 6; kind++) {
            Host.way(x, kind, choices);
        }
        // (5 c + 3) modulo 17 for c 0 .. 15: 3 8 13 1 6 11 16 4 9 14 2 7 12 0 5 10.
        int[] drawn = {13, 3, 10, 0, 7, 14, 4, 11, 1, 8, 15, 5, 12, 2, 9, 6};
        for (int i = 0; i < 16; i++) {
            for (int kind = 0; kind < 6; kind++) {
                DUE.is("sixteen, kind " + kind + ", " + i, x.passes(kind, i), kind == 3 ? drawn[i] : i);
            }
        }
        DUE.is("all wait", x.sum(0, 3), 120);
        DUE.is("half of them at each gate", x.split(0, 0, 24, 0), 8);
        DUE.is("no toll makes them wait less", x.finest(0, 0, 5, 1), 0);
    }

    /** What was found of a way ahead of a change is not found behind it. */
    private static void again() {
        GateRoad x = new GateRoad();
        x.sort(12, 50, 0, 0);
        Host.carts(x, 0, 0);
        Host.way(x, 0, 0, 0);
        DUE.is("cart 0 passes", x.of(0, 0, 1), 0);
        DUE.is("cart 1 behind it", x.of(0, 1, 1), 1);
        x.set(0, 0, 48);
        DUE.is("cart 0 stays", x.of(0, 0, 1), -1);
        DUE.is("cart 0 never came", x.of(0, 0, 0), -1);
        DUE.is("cart 1 passes alone", x.of(0, 1, 1), 0);
        x.set(0, 1, 1);
        DUE.is("cart 1 passes later", x.of(0, 1, 1), 1);
        DUE.is("one passes", x.passes(0, -1), 1);
        x.rate(0, 0, 24, 0);
        x.set(0, 0, 0);
        DUE.is("cart 0 waits", x.line(0, 0, 0), 1);
        DUE.is("both wait", x.line(0, 0, 1), 2);
    }

    private static void tolls() {
        GateRoad x = four();
        x.toll(0, 12, 7);
        x.toll(0, 13, 9);
        x.toll(0, 14, 2);
        x.toll(0, 15, 99);
        x.toll(0, 3, 50);
        x.toll(1, 12, 60);
        int[] tolls = {7, 9, 2, 99};
        for (int w = 0; w < 6; w++) {
            for (int i = 0; i < 4; i++) {
                int want = w == 1 ? tolls[i] : w == 5 ? tolls[i] / 2 : 0;
                DUE.is("kind " + w + ": paid by the " + i + "-th", x.of(w, ORDERS[w][i], 3), want);
            }
            DUE.is("kind " + w + ": paid by all", x.sum(w, 2), w == 1 ? 117 : w == 5 ? 3 + 4 + 1 + 49 : 0);
        }
        DUE.is("the toll in the cost", x.of(1, 0, 2), 16 + 3 + 9);
        DUE.is("half the toll in the cost", x.of(5, 2, 2), 20 + 3 + 4);
        x.rate(0, 0, 24, 0);
        DUE.is("who doesn't pass pays nothing", x.of(1, 2, 3), 0);
        x.set(1, 2, 48);
        DUE.is("who stays pays nothing", x.of(1, 2, 3), 0);
    }

    private static void spared() {
        GateRoad x = four();
        DUE.is("waited 5: spared", x.of(4, 1, 2), 10 - 2);
        x.set(4, 1, 8);
        DUE.is("waited 4: not spared", x.of(4, 1, 2), 8);
        DUE.is("lost is not spared", x.of(4, 0, 4), 8);
        for (int w = 0; w < 6; w++) {
            if (w != 4) {
                x.rate(0, 12, 13, 9);
                DUE.is("kind " + w + ": nothing spared", x.of(w, 1, 2), 10);
            }
        }
        Host.text(x, "cost -9999;lost 0;");
        x.force(1);
        x.set(4, 1, 7);
        DUE.is("less than the bound of cost", x.of(4, 1, 2), -10001);
    }

    private static void arrivals() {
        GateRoad x = new GateRoad();
        x.sort(10, 50, 2, 3);
        Host.carts(x, 0, 0, 0, 0, 0, 0);
        Host.way(x, 0, 21, 22, 48, 24 + 20, 24 + 21, 0);
        int[] came = {23, -1, -1, 23, -1, 2};
        for (int c = 0; c < 6; c++) {
            DUE.is("came of " + c, x.of(0, c, 0), came[c]);
            DUE.is("passed of " + c, x.of(0, c, 1), came[c]);
        }
        x.rate(1, 23, 24, 0);
        DUE.is("it waits behind the last minute", x.of(0, 3, 1), -1);
        DUE.is("but it came", x.of(0, 3, 0), 23);
        DUE.is("of: way 1", x.of(1, 0, 0), -10000);
        DUE.is("of: way -1", x.of(-1, 0, 0), -10000);
        DUE.is("of: cart 6", x.of(0, 6, 9), -10000);
        DUE.is("of: cart -1", x.of(0, -1, 0), -10000);
        DUE.is("of: what -1", x.of(0, 0, -1), -10001);
        DUE.is("of: what 5", x.of(0, 0, 5), -10001);
    }

    private static void costs() {
        GateRoad x = new GateRoad();
        x.sort(10, 321, 0, 0);
        Host.carts(x, 0, 0, 0, 0);
        x.rate(1, 0, 24, 0);
        Host.way(x, 0, 10, 10, 48, 24);
        int[] cost = {0, 5, 321, 5000};
        int[] lost = {0, 1, 0, 0};
        for (int c = 0; c < 4; c++) {
            DUE.is("cost of " + c, x.of(0, c, 2), cost[c]);
            DUE.is("lost of " + c, x.of(0, c, 4), lost[c]);
        }
        Host.text(x, "cost 9999*2;lost -9999*2;");
        x.force(1);
        DUE.is("cost is bound", x.of(0, 0, 2), 9999);
        DUE.is("lost is bound", x.of(0, 0, 4), -9999);
        DUE.is("who never passes loses nothing", x.of(0, 3, 4), 0);
        DUE.is("who stays loses nothing", x.of(0, 2, 4), 0);
        DUE.is("staying costs as told", x.of(0, 2, 2), 321);
    }

    private static void line() {
        GateRoad x = new GateRoad();
        x.sort(10, 50, 0, 1);
        Host.carts(x, 0, 0, 0, 0, 0, 0);
        x.rate(0, 4, 5, 0);
        x.rate(0, 6, 7, 2);
        Host.way(x, 0, 3, 3, 4, 4, 24 + 4, 48);
        // Two come in 3, one passes; two more in 4, none passes; one in 5, two in 6.
        int[] waiting = {0, 0, 0, 1, 3, 2, 0, 0};
        for (int t = 0; t < waiting.length; t++) {
            DUE.is("line behind " + t, x.line(0, 0, t), waiting[t]);
        }
        DUE.is("at the other gate", x.line(0, 1, 5), 0);
        x.rate(1, 0, 24, 0);
        DUE.is("ahead of its coming", x.line(0, 1, 4), 0);
        DUE.is("when it comes", x.line(0, 1, 5), 1);
        DUE.is("till the end", x.line(0, 1, 23), 1);
        DUE.is("line: way 1", x.line(1, 0, 0), -5);
        DUE.is("line: way -1", x.line(-1, 0, 0), -5);
        DUE.is("line: gate 2", x.line(0, 2, 0), -5);
        DUE.is("line: gate -1", x.line(0, -1, 0), -5);
        DUE.is("line: minute 24", x.line(0, 0, 24), -5);
        DUE.is("line: minute -1", x.line(0, 0, -1), -5);
    }

    private static void passes() {
        GateRoad x = new GateRoad();
        x.sort(10, 50, 0, 0);
        Host.carts(x, 0, 0, 0, 0, 0);
        x.rate(0, 5, 6, 2);
        Host.way(x, 0, 24 + 5, 5, 5, 24 + 4, 48);
        int[] want = {3, 1, 2, 0};
        DUE.is("how many pass", x.passes(0, -1), 4);
        for (int i = 0; i < 4; i++) {
            DUE.is("the " + i + "-th", x.passes(0, i), want[i]);
        }
        DUE.is("passes: 4", x.passes(0, 4), -1);
        DUE.is("passes: -2", x.passes(0, -2), -1);
        DUE.is("passes: way 1", x.passes(1, -1), -5);
        DUE.is("passes: way -1", x.passes(-1, -2), -5);
    }

    private static void sum() {
        GateRoad x = new GateRoad();
        x.sort(10, 321, 0, 0);
        Host.carts(x, 0, 0, 0, 0, 0);
        x.rate(1, 0, 24, 0);
        x.toll(0, 10, 5);
        x.toll(0, 11, 7);
        Host.way(x, 1, 10, 10, 10, 48, 24);
        // They pass in 10, 11, 12, having waited 0, 1, 2.
        DUE.is("sum of costs", x.sum(0, 0), 5 + (2 + 3 + 7) + (4 + 6) + 321 + 5000);
        DUE.is("sum of what is lost", x.sum(0, 1), 3);
        DUE.is("sum of what is paid", x.sum(0, 2), 12);
        DUE.is("sum of what is waited", x.sum(0, 3), 3);
        Host.text(x, "cost 1;lost 100+wait;");
        x.force(1);
        DUE.is("lost by another rule", x.sum(0, 1), 303);
        DUE.is("waited is not lost", x.sum(0, 3), 3);
        DUE.is("sum: what -1", x.sum(0, -1), GateRoad.NO);
        DUE.is("sum: what 4", x.sum(0, 4), GateRoad.NO);
        DUE.is("sum: way 1", x.sum(1, 0), GateRoad.NO);
        DUE.is("sum: way -1", x.sum(-1, 0), GateRoad.NO);
    }
}
