/** Promises 31 to 35: sheets, rates by them, what is taken for what. */
public final class HostTest {
    private static final Due DUE = new Due("HostTest");

    public static void main(String[] args) {
        sheet();
        cell();
        copy();
        rates();
        ratesRefused();
        taken();
        DUE.end();
    }

    /** The first number of a sheet of ints, bytes or shorts, as the choice that a way takes from it. */
    private static int told(GateRoad x, int s) {
        int w = x.way(0, s);
        return w < 0 ? w : x.wayTold(w, 0);
    }

    private static GateRoad one() {
        GateRoad x = new GateRoad();
        x.sort(1, 1, 1, 1);
        x.cart(0);
        return x;
    }

    private static void sheet() {
        GateRoad x = one();
        DUE.is("sheet of 40", x.sheet(3, 0, 40), 1);
        DUE.is("its last", x.cell(3, 39, 1), 1);
        DUE.is("behind its last", x.cell(3, 40, 1), -12);
        DUE.is("sheet of 0", x.sheet(3, 2, 0), 1);
        DUE.is("it has none", x.cell(3, 0, 1), -12);
        DUE.is("sheet of 1", x.sheet(0, 1, 1), 1);
        DUE.is("all 0", told(x, 0), 0);
        x.cell(0, 0, 7);
        DUE.is("it again", x.sheet(0, 1, 1), 1);
        DUE.is("all 0 again", told(x, 0), 0);
        DUE.is("sheet: -1", x.sheet(-1, 0, 1), -2);
        DUE.is("sheet: 4", x.sheet(4, -1, -1), -2);
        DUE.is("sheet: sort -2", x.sheet(0, -2, -1), -2);
        DUE.is("sheet: sort 3", x.sheet(0, 3, -1), -2);
        DUE.is("sheet: 41", x.sheet(0, 0, 41), -2);
        DUE.is("sheet: size -1", x.sheet(0, 0, -1), -14);
        x.cell(0, 0, 5);
        DUE.is("a refusal changes nothing", told(x, 0), 5);
        DUE.is("missing, whatever n", x.sheet(0, -1, 41), 1);
        DUE.is("missing it is", x.cell(0, 0, 0), -11);
        DUE.is("missing again", x.sheet(0, -1, -5), 1);
    }

    private static void cell() {
        GateRoad x = one();
        DUE.is("cell of a missing sheet", x.cell(0, 99, 0), -11);
        DUE.is("cell: sheet 4", x.cell(4, 0, 0), -2);
        DUE.is("cell: sheet -1", x.cell(-1, 0, 0), -2);
        int[][] put = {{0, 0x7FFFFF30, 0x30}, {1, 0x7FFF0030, 0x30}, {2, 0x10030, -2}, {1, 0x130, -2}, {0, -200, -2},
            {0, 0x100, 0}, {1, 0x10000, 0}, {2, 48, 48}};
        for (int i = 0; i < put.length; i++) {
            x.sheet(1, put[i][0], 1);
            DUE.is("cell of sort " + put[i][0], x.cell(1, 0, put[i][1]), 1);
            DUE.is(put[i][1] + " in sort " + put[i][0], told(x, 1), put[i][2]);
        }
        x.sheet(1, 2, 3);
        DUE.is("cell: -1", x.cell(1, -1, 0), -12);
        DUE.is("cell: 3", x.cell(1, 3, 0), -12);
    }

    private static GateRoad row() {
        GateRoad x = new GateRoad();
        x.sort(1, 1, 1, 1);
        Host.carts(x, 0, 0, 0, 0, 0);
        Host.fill(x, 0, 1, 2, 3, 4, 5);
        Host.fill(x, 1, 11, 12, 13, 14, 15);
        return x;
    }

    private static void rowIs(GateRoad x, int s, int... want) {
        int w = x.way(0, s);
        for (int c = 0; c < want.length; c++) {
            DUE.is("number " + c + " of sheet " + s, x.wayTold(w, c), want[c]);
        }
    }

    private static void copy() {
        GateRoad x = row();
        DUE.is("copy", x.copy(0, 1, 1, 0, 3), 3);
        rowIs(x, 1, 2, 3, 4, 14, 15);
        DUE.is("copy onto itself, up", x.copy(0, 0, 0, 1, 4), 4);
        rowIs(x, 0, 1, 1, 2, 3, 4);
        DUE.is("copy onto itself, down", x.copy(0, 1, 0, 0, 4), 4);
        rowIs(x, 0, 1, 2, 3, 4, 4);
        DUE.is("copy none at the end", x.copy(0, 5, 1, 5, 0), 0);
        int[][] outside = {{-1, 0, 1}, {0, -1, 1}, {0, 0, -1}, {0, 0, 6}, {1, 0, 5}, {0, 1, 5}, {6, 0, 0}, {0, 6, 0},
            {Integer.MAX_VALUE, 0, 1}, {1, 0, Integer.MAX_VALUE}, {Integer.MIN_VALUE, 0, Integer.MIN_VALUE}};
        for (int[] o : outside) {
            DUE.is("copy outside " + java.util.Arrays.toString(o), x.copy(0, o[0], 1, o[1], o[2]), -12);
        }
        rowIs(x, 1, 2, 3, 4, 14, 15);
        x.sheet(2, 1, 5);
        DUE.is("copy to another sort", x.copy(0, 9, 2, 0, -1), -13);
        DUE.is("copy from another sort", x.copy(2, 0, 0, 0, 1), -13);
        x.sheet(3, -1, 0);
        DUE.is("copy to a missing one", x.copy(0, 9, 3, 0, 1), -11);
        DUE.is("copy from a missing one", x.copy(3, 0, 0, 0, 1), -11);
        DUE.is("copy: sheet 4", x.copy(4, 0, 3, 0, 1), -2);
        DUE.is("copy: to sheet 4", x.copy(3, 0, 4, 0, 1), -2);
        DUE.is("copy: sheet -1", x.copy(-1, 0, 0, 0, 1), -2);
        DUE.is("copy: to sheet -1", x.copy(0, 0, -1, 0, 1), -2);
        Host.fillAs(x, 2, 0, 1, 2, 3, 4, 5);
        Host.fillAs(x, 3, 0, 9, 9, 9, 9, 9);
        DUE.is("copy of bytes", x.copy(2, 4, 3, 4, 1), 1);
        rowIs(x, 3, 9, 9, 9, 9, 5);
    }

    private static void rates() {
        GateRoad x = new GateRoad();
        Host.fillAs(x, 1, 1, 99, 0, 5, 7, 2, 2, 0, 1, 3, 1, 0, 24, 4, 0);
        DUE.is("rates: two of three", x.rates(1, 1, 1, 3), 2);
        DUE.is("the first", x.gateTold(0, 5, 0), 2);
        DUE.is("the first, its last minute", x.gateTold(0, 6, 0), 2);
        DUE.is("behind the first", x.gateTold(0, 7, 0), 1);
        DUE.is("the third", x.gateTold(1, 23, 0), 4);
        DUE.is("none, wherever", x.rates(1, 1, -1, 0), 0);
        x.rate(0, 0, 24, 1);
        x.rate(1, 0, 24, 1);
        DUE.is("outside behind three", x.rates(1, 1, 1, 4), -12);
        DUE.is("what stood ahead was told: first", x.gateTold(0, 5, 0), 2);
        DUE.is("what stood ahead was told: third", x.gateTold(1, 0, 0), 4);
        // From 2 on: 5 7 2 2, 0 1 3 1, 0 24 4 0.
        x.rate(1, 0, 24, 1);
        DUE.is("from another place", x.rates(1, 1, 2, 3), 1);
        DUE.is("as of rate()", x.gateTold(0, 2, 0), 1);
        Host.fill(x, 2, 0, 0, 1, 5, 0, 1, 2, 5, 0, 2, 3, 5, 0, 3, 4, 5, 0, 4, 5, 5, 0, 5, 6, 5, 0, 6, 7, 5, 0, 7, 8, 5,
                0, 8, 9, 5, 0, 9, 10, 5);
        DUE.is("ten", x.rates(2, 2, 0, 10), 10);
        DUE.is("the tenth", x.gateTold(0, 9, 0), 5);
    }

    private static void ratesRefused() {
        GateRoad x = new GateRoad();
        Host.fill(x, 0, 0, 0, 1, 5, 0);
        DUE.is("rates: sheet 4", x.rates(4, 2, 0, 1), -2);
        DUE.is("rates: sheet -1", x.rates(-1, 2, 0, 1), -2);
        DUE.is("rates: sort -1", x.rates(0, -1, 0, 1), -2);
        DUE.is("rates: sort 3", x.rates(0, 3, 0, 1), -2);
        DUE.is("rates: n -1", x.rates(0, 2, 0, -1), -2);
        DUE.is("rates: n 11", x.rates(1, 2, 0, 11), -2);
        DUE.is("rates: a missing one", x.rates(1, 2, 9, 1), -11);
        DUE.is("rates: another sort", x.rates(0, 1, 9, 1), -13);
        DUE.is("rates: from -1", x.rates(0, 2, -1, 1), -12);
        DUE.is("rates: from 2", x.rates(0, 2, 2, 1), -12);
        DUE.is("rates: from far", x.rates(0, 2, Integer.MAX_VALUE, 1), -12);
        DUE.is("rates: from far below", x.rates(0, 2, Integer.MIN_VALUE, 10), -12);
        DUE.is("nothing told", x.gateTold(0, 0, 0), 1);
        x.rate(0, 0, 1, 0);
        DUE.is("rates: what was 0", x.rates(0, 2, 0, 1), 1);
        DUE.is("rates: from 1", x.rates(0, 2, 1, 1), 1);
    }

    private static void taken() {
        GateRoad x = new GateRoad();
        x.sort(1, 1, 1, 1);
        x.sort(1, 1, 1, 1);
        x.sort(1, 1, 1, 1);
        Host.carts(x, 2, 1);
        for (int kind = 0; kind < 6; kind++) {
            Host.way(x, kind, 1, 1);
        }
        // Row: the way's kind; column: what it is taken for.
        int[][] is = {{1, 0, 0, 0, 0, 0}, {1, 1, 0, 0, 0, 0}, {1, 0, 1, 0, 0, 0}, {1, 0, 1, 1, 0, 0}, {1, 0, 0, 0, 1, 0},
            {1, 1, 0, 0, 0, 1}};
        for (int w = 0; w < 6; w++) {
            for (int kind = 0; kind < 6; kind++) {
                DUE.is("way " + w + " taken for " + kind, x.taken(16 + w, kind), is[w][kind] == 1 ? w : -13);
            }
            DUE.is("way " + w + " taken for a cart", x.taken(16 + w, 6), -13);
            DUE.is("a cart taken for " + w, x.taken(0, w), -13);
        }
        DUE.is("cart 0's sort", x.taken(0, 6), 2);
        DUE.is("cart 1's sort", x.taken(1, 6), 1);
        DUE.is("no cart 2", x.taken(2, 0), -11);
        DUE.is("no cart 15", x.taken(15, 6), -11);
        DUE.is("no way 6", x.taken(22, 6), -11);
        DUE.is("no way 7", x.taken(23, 0), -11);
        DUE.is("taken: -1", x.taken(-1, 6), -12);
        DUE.is("taken: 24", x.taken(24, 0), -12);
        DUE.is("taken: kind -1", x.taken(24, -1), -2);
        DUE.is("taken: kind 7", x.taken(2, 7), -2);
    }
}
