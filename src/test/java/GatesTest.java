/** Promises 1 to 8: a new object; gates, sorts, carts. */
public final class GatesTest {
    private static final Due DUE = new Due("GatesTest");

    public static void main(String[] args) {
        aNewObject();
        rate();
        toll();
        sort();
        cart();
        wishes();
        gateTold();
        sortTold();
        constants();
        DUE.end();
    }

    private static void aNewObject() {
        GateRoad x = new GateRoad();
        int[] counts = {0, 0, 0, 1, 0, 0};
        for (int what = 0; what < 6; what++) {
            DUE.is("new: count(" + what + ")", x.count(what), counts[what]);
        }
        for (int g = 0; g < 2; g++) {
            for (int t = 0; t < 24; t++) {
                DUE.is("new: rate of " + g + ", " + t, x.gateTold(g, t, 0), 1);
                DUE.is("new: toll of " + g + ", " + t, x.gateTold(g, t, 1), 0);
            }
        }
        for (int s = 0; s < 4; s++) {
            DUE.is("new: sort " + s, x.sortTold(s, 0), -5);
            DUE.is("new: cart of sort " + s, x.cart(s), GateRoad.NONE);
            DUE.is("new: sheet " + s, x.cell(s, 0, 0), -11);
        }
        DUE.is("new: way 0", x.wayTold(0, -1), -5);
        DUE.is("new: place 0", x.taken(0, 6), -11);
        DUE.is("new: place 16", x.taken(16, 0), -11);
        DUE.is("new: back()", x.back(), GateRoad.STATE);
    }

    private static void rate() {
        GateRoad x = new GateRoad();
        DUE.is("rate from 3 to 7", x.rate(0, 3, 7, 4), 1);
        int[] want = {1, 1, 1, 4, 4, 4, 4, 1, 1};
        for (int t = 0; t < want.length; t++) {
            DUE.is("rate in " + t, x.gateTold(0, t, 0), want[t]);
            DUE.is("rate of the other gate in " + t, x.gateTold(1, t, 0), 1);
        }
        DUE.is("what it was in the first", x.rate(0, 6, 24, 9), 4);
        DUE.is("till the end", x.gateTold(0, 23, 0), 9);
        DUE.is("a single minute", x.rate(1, 0, 1, 0), 1);
        DUE.is("a single minute: itself", x.gateTold(1, 0, 0), 0);
        DUE.is("a single minute: behind it", x.gateTold(1, 1, 0), 1);
        DUE.is("the last minute", x.rate(1, 23, 24, 2), 1);

        DUE.is("gate -1", x.rate(-1, 0, 1, 1), -1);
        DUE.is("gate 2", x.rate(2, 0, 1, 1), -1);
        DUE.is("minute -1", x.rate(0, -1, 1, 1), -1);
        DUE.is("minute 24", x.rate(0, 24, 25, 1), -1);
        DUE.is("to 25", x.rate(0, 3, 25, 1), -2);
        DUE.is("to 0", x.rate(0, 0, 0, 1), -2);
        DUE.is("to as from", x.rate(0, 3, 3, 1), -2);
        DUE.is("to below from", x.rate(0, 3, 2, 1), -2);
        DUE.is("n -1", x.rate(0, 3, 4, -1), -2);
        DUE.is("n 10", x.rate(0, 3, 4, 10), -2);
        DUE.is("no gate and bad", x.rate(2, 3, 3, 10), -1);
        DUE.is("no minute and bad", x.rate(0, 24, 3, 10), -1);
        DUE.is("a refusal changes nothing", x.gateTold(0, 3, 0), 4);
    }

    private static void toll() {
        GateRoad x = new GateRoad();
        DUE.is("toll", x.toll(1, 23, 99), 0);
        DUE.is("what it was", x.toll(1, 23, 5), 99);
        DUE.is("it is", x.gateTold(1, 23, 1), 5);
        DUE.is("the other gate's", x.gateTold(0, 23, 1), 0);
        DUE.is("the minute ahead", x.gateTold(1, 22, 1), 0);
        DUE.is("its rate", x.gateTold(1, 23, 0), 1);
        DUE.is("toll: gate -1", x.toll(-1, 0, 0), -1);
        DUE.is("toll: gate 2", x.toll(2, 0, 0), -1);
        DUE.is("toll: minute -1", x.toll(0, -1, 0), -1);
        DUE.is("toll: minute 24", x.toll(0, 24, 0), -1);
        DUE.is("toll: -1", x.toll(0, 0, -1), -2);
        DUE.is("toll: 100", x.toll(1, 23, 100), -2);
        DUE.is("toll: no gate and bad", x.toll(2, 0, 100), -1);
        DUE.is("toll: no minute and bad", x.toll(0, 24, 100), -1);
        DUE.is("toll: a refusal changes nothing", x.gateTold(1, 23, 1), 5);
    }

    private static void sort() {
        GateRoad x = new GateRoad();
        int[][] bad = {{-1, 0, 0, 0}, {24, 0, 0, 0}, {0, -1, 0, 0}, {0, 1000, 0, 0}, {0, 0, -1, 0}, {0, 0, 10, 0},
            {0, 0, 0, -1}, {0, 0, 0, 10}};
        for (int[] b : bad) {
            DUE.is("sort " + java.util.Arrays.toString(b), x.sort(b[0], b[1], b[2], b[3]), -2);
        }
        DUE.is("no sort by a refusal", x.count(0), 0);
        DUE.is("sort of the least", x.sort(0, 0, 0, 0), 0);
        DUE.is("sort of the most", x.sort(23, 999, 9, 9), 1);
        DUE.is("sort 2", x.sort(1, 2, 3, 4), 2);
        DUE.is("sort 3", x.sort(1, 2, 3, 4), 3);
        DUE.is("a fifth", x.sort(1, 2, 3, 4), -4);
        DUE.is("a fifth that is bad", x.sort(24, 2, 3, 4), -2);
        DUE.is("four sorts", x.count(0), 4);
    }

    private static void cart() {
        GateRoad x = new GateRoad();
        x.sort(1, 2, 3, 4);
        x.sort(1, 2, 3, 4);
        DUE.is("cart of sort -1", x.cart(-1), -1);
        DUE.is("cart of sort 2", x.cart(2), -1);
        for (int c = 0; c < 16; c++) {
            DUE.is("cart " + c, x.cart(c % 2), c);
        }
        DUE.is("a seventeenth", x.cart(0), -4);
        DUE.is("a seventeenth of no sort", x.cart(2), -1);
        DUE.is("sixteen carts", x.count(1), 16);
        DUE.is("cart 14's sort", x.taken(14, 6), 0);
        DUE.is("cart 15's sort", x.taken(15, 6), 1);
    }

    private static void wishes() {
        GateRoad x = new GateRoad();
        DUE.is("wishes of none", x.wishes(0, 5), -5);
        x.sort(10, 2, 3, 4);
        x.sort(11, 2, 3, 4);
        DUE.is("wishes", x.wishes(1, 23), 11);
        DUE.is("wishes 0", x.wishes(1, 0), 23);
        DUE.is("is wished", x.sortTold(1, 0), 0);
        DUE.is("the other sort's", x.sortTold(0, 0), 10);
        DUE.is("wishes: sort -1", x.wishes(-1, 0), -5);
        DUE.is("wishes: sort 2", x.wishes(2, 24), -5);
        DUE.is("wishes: minute -1", x.wishes(0, -1), -7);
        DUE.is("wishes: minute 24", x.wishes(0, 24), -7);
        DUE.is("wishes: nothing changed", x.sortTold(0, 0), 10);
    }

    private static void gateTold() {
        GateRoad x = new GateRoad();
        x.rate(1, 5, 6, 3);
        x.toll(1, 5, 44);
        DUE.is("gateTold: rate", x.gateTold(1, 5, 0), 3);
        DUE.is("gateTold: toll", x.gateTold(1, 5, 1), 44);
        DUE.is("gateTold: gate -1", x.gateTold(-1, 5, 0), -5);
        DUE.is("gateTold: gate 2", x.gateTold(2, 5, 9), -5);
        DUE.is("gateTold: minute -1", x.gateTold(0, -1, 0), -5);
        DUE.is("gateTold: minute 24", x.gateTold(0, 24, 9), -5);
        DUE.is("gateTold: what -1", x.gateTold(0, 0, -1), -7);
        DUE.is("gateTold: what 2", x.gateTold(0, 0, 2), -7);
    }

    private static void sortTold() {
        GateRoad x = new GateRoad();
        x.sort(1, 2, 3, 4);
        x.sort(5, 600, 7, 8);
        int[] want = {5, 600, 7, 8};
        for (int what = 0; what < 4; what++) {
            DUE.is("sortTold(1, " + what + ")", x.sortTold(1, what), want[what]);
            DUE.is("sortTold(0, " + what + ")", x.sortTold(0, what), what + 1);
        }
        DUE.is("sortTold: sort -1", x.sortTold(-1, 0), -5);
        DUE.is("sortTold: sort 2", x.sortTold(2, 9), -5);
        DUE.is("sortTold: what -1", x.sortTold(0, -1), -7);
        DUE.is("sortTold: what 4", x.sortTold(0, 4), -7);
    }

    private static void constants() {
        DUE.is("NONE", GateRoad.NONE, -1);
        DUE.is("BAD", GateRoad.BAD, -2);
        DUE.is("STATE", GateRoad.STATE, -3);
        DUE.is("FULL", GateRoad.FULL, -4);
        DUE.is("NO", GateRoad.NO, -(1L << 62));
    }
}
