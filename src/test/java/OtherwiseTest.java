/** Promises 23 to 30: what would be otherwise, counts, images. */
public final class OtherwiseTest {
    private static final Due DUE = new Due("OtherwiseTest");

    public static void main(String[] args) {
        beside();
        sticks();
        shift();
        finestByTolls();
        finestOfTheStranded();
        finestRefusals();
        split();
        count();
        image();
        imageOfLess();
        DUE.end();
    }

    /** Three carts that all come to gate 0 in their wished minute, 10. */
    private static GateRoad three(int kind) {
        GateRoad x = new GateRoad();
        x.sort(10, 50, 0, 0);
        Host.carts(x, 0, 0, 0);
        Host.way(x, kind, 10, 10, 10);
        return x;
    }

    private static void beside() {
        GateRoad x = three(0);
        DUE.is("as it is", x.sum(0, 0), 0 + 5 + 10);
        DUE.is("as the rate is", x.beside(0, 0, 10, 1), 0);
        DUE.is("two a minute", x.beside(0, 0, 10, 2), 5 - 15);
        DUE.is("nine a minute", x.beside(0, 0, 10, 9), -15);
        DUE.is("none in the minute", x.beside(0, 0, 10, 0), 15);
        DUE.is("the other gate", x.beside(0, 1, 10, 0), 0);
        DUE.is("nothing changed", x.gateTold(0, 10, 0), 1);
        DUE.is("the sum neither", x.sum(0, 0), 15);
        DUE.is("beside: n -1", x.beside(0, 0, 0, -1), GateRoad.NO);
        DUE.is("beside: n 10", x.beside(0, 0, 0, 10), GateRoad.NO);
        DUE.is("beside: minute 24", x.beside(0, 0, 24, 1), GateRoad.NO);
        DUE.is("beside: minute -1", x.beside(0, 0, -1, 1), GateRoad.NO);
        DUE.is("beside: gate 2", x.beside(0, 2, 0, 1), GateRoad.NO);
        DUE.is("beside: gate -1", x.beside(0, -1, 0, 1), GateRoad.NO);
        DUE.is("beside: way 1", x.beside(1, 0, 0, 1), GateRoad.NO);
        DUE.is("beside: way -1", x.beside(-1, 0, 0, 1), GateRoad.NO);
    }

    private static void sticks() {
        GateRoad x = three(0);
        // 15 as it is, 30 if it sticks.
        int[][] want = {{15, 1}, {33, 2}, {18, 1}, {39, 2}, {21, 1}, {45, 2}, {24, 1}, {51, 2}, {27, 1}, {57, 2}, {30, 1}};
        for (int tenths = 0; tenths <= 10; tenths++) {
            DUE.is("above, " + tenths, x.sticks(0, 0, 10, tenths, 0), want[tenths][0]);
            DUE.is("below, " + tenths, x.sticks(0, 0, 10, tenths, 1), want[tenths][1]);
        }
        x.rate(0, 10, 11, 2);
        // 5 as it is, 30 if it sticks.
        DUE.is("tenths, above", x.sticks(0, 0, 10, 3, 0), 25);
        DUE.is("tenths, below", x.sticks(0, 0, 10, 3, 1), 2);
        DUE.is("nothing changed", x.gateTold(0, 10, 0), 2);
        Host.text(x, "cost wait=0;lost 0;");
        x.force(1);
        // 2 as it is, 0 if it sticks.
        DUE.is("fifths, above", x.sticks(0, 0, 10, 3, 0), 7);
        DUE.is("fifths, below", x.sticks(0, 0, 10, 3, 1), 5);
        DUE.is("nothing, above", x.sticks(0, 0, 10, 10, 0), 0);
        DUE.is("nothing, below", x.sticks(0, 0, 10, 10, 1), 1);
        Host.text(x, "cost 0-(wait=2)*3;lost 0;");
        x.force(2);
        // 0 as it is, -3 if it sticks.
        DUE.is("below 0, above", x.sticks(0, 0, 10, 7, 0), -21);
        DUE.is("below 0, below", x.sticks(0, 0, 10, 7, 1), 10);
        DUE.is("below 0, fifths, above", x.sticks(0, 0, 10, 4, 0), -6);
        DUE.is("below 0, fifths, below", x.sticks(0, 0, 10, 4, 1), 5);
        DUE.is("sticks: part -1", x.sticks(0, 0, 0, 0, -1), GateRoad.NO);
        DUE.is("sticks: part 2", x.sticks(0, 0, 0, 0, 2), GateRoad.NO);
        DUE.is("sticks: tenths -1", x.sticks(0, 0, 0, -1, 0), GateRoad.NO);
        DUE.is("sticks: tenths 11", x.sticks(0, 0, 0, 11, 0), GateRoad.NO);
        DUE.is("sticks: minute 24", x.sticks(0, 0, 24, 0, 0), GateRoad.NO);
        DUE.is("sticks: gate 2", x.sticks(0, 2, 0, 0, 0), GateRoad.NO);
        DUE.is("sticks: way 1", x.sticks(1, 0, 0, 0, 0), GateRoad.NO);
    }

    private static void shift() {
        GateRoad x = new GateRoad();
        x.sort(10, 50, 0, 0);
        x.sort(20, 50, 0, 0);
        Host.carts(x, 0, 1);
        Host.way(x, 0, 10, 20);
        DUE.is("by 0", x.shift(0, 0), 0);
        DUE.is("by 2", x.shift(0, 2), 2 + 2);
        DUE.is("by 3", x.shift(0, 3), 3 + 3);
        DUE.is("by 4, the bound", x.shift(0, 4), 4 + 3);
        DUE.is("by 23", x.shift(0, 23), 13 + 3);
        DUE.is("by -3", x.shift(0, -3), 9 + 9);
        DUE.is("by -11, the bound", x.shift(0, -11), 30 + 33);
        DUE.is("by -23", x.shift(0, -23), 30 + 60);
        DUE.is("nothing changed", x.sortTold(1, 0), 20);
        DUE.is("the sum neither", x.sum(0, 0), 0);
        DUE.is("shift: by 24", x.shift(0, 24), GateRoad.NO);
        DUE.is("shift: by -24", x.shift(0, -24), GateRoad.NO);
        DUE.is("shift: way 1", x.shift(1, 0), GateRoad.NO);
        DUE.is("shift: way -1", x.shift(-1, 0), GateRoad.NO);
    }

    private static void finestByTolls() {
        // Whoever pays 4 or more moves: then nobody waits.
        GateRoad x = new GateRoad();
        x.sort(5, 999, 0, 0);
        Host.carts(x, 0, 0);
        Host.way(x, 1, 5, 5);
        Host.way(x, 5, 5, 5);
        Host.way(x, 0, 5, 5);
        Host.text(x, "cost 3<toll;lost 0;");
        x.force(1);
        DUE.is("behind a move", x.finest(0, 0, 5, 1), 4);
        DUE.is("behind none", x.finest(0, 0, 5, 0), 0);
        DUE.is("half is paid", x.finest(1, 0, 5, 1), 0);
        DUE.is("nothing is paid", x.finest(2, 0, 5, 1), 0);
        DUE.is("the other gate", x.finest(0, 1, 5, 1), 0);
        Host.text(x, "cost 2<toll;lost 0;");
        x.force(2);
        DUE.is("half is paid, of 6", x.finest(1, 0, 5, 1), 6);
        Host.text(x, "cost 6<toll;lost 0;");
        x.force(3);
        DUE.is("seven", x.finest(0, 0, 5, 1), 7);
        Host.text(x, "cost 0<toll;lost 0;");
        x.force(4);
        DUE.is("one", x.finest(0, 0, 5, 1), 1);
        x.force(2);
        x.toll(0, 5, 50);
        DUE.is("instead of what it is", x.finest(0, 0, 5, 1), 3);
        DUE.is("the toll stays", x.gateTold(0, 5, 1), 50);
        DUE.is("cart 0's choice stays", x.wayTold(0, 0), 5);
        DUE.is("cart 1's choice stays", x.wayTold(0, 1), 5);
    }

    /** Gate 0 lets one through in 10, gate 1 one in a minute; cart 0, which stays, moves to where it pays nothing. */
    private static int finestIfGate1OpensIn(int minute) {
        GateRoad x = new GateRoad();
        x.sort(5, 999, 0, 0);
        x.sort(5, 999, 1, 0);
        Host.carts(x, 1, 0);
        x.rate(0, 0, 24, 0);
        x.rate(0, 10, 11, 1);
        x.rate(1, 0, 24, 0);
        x.rate(1, minute, minute + 1, 1);
        Host.way(x, 5, 48, 0);
        Host.text(x, "cost 9*(0<toll);lost 0;");
        x.force(1);
        return x.finest(0, 0, 10, 1);
    }

    private static void finestOfTheStranded() {
        // At gate 0 cart 0 waits 9, and cart 1 does not pass: 24. By a toll of 2 (it pays half) cart 0 waits at
        // gate 1 instead, and cart 1 waits 10.
        DUE.is("less than 24 for who doesn't pass", finestIfGate1OpensIn(22), 2);
        DUE.is("as much as 24 for who doesn't pass", finestIfGate1OpensIn(23), 0);
    }

    private static void finestRefusals() {
        GateRoad x = three(1);
        DUE.is("finest: n -1", x.finest(0, 0, 0, -1), -7);
        DUE.is("finest: n 2", x.finest(0, 0, 0, 2), -7);
        DUE.is("finest: minute 24", x.finest(0, 0, 24, 2), -5);
        DUE.is("finest: minute -1", x.finest(0, 0, -1, 0), -5);
        DUE.is("finest: gate 2", x.finest(0, 2, 0, 2), -5);
        DUE.is("finest: gate -1", x.finest(0, -1, 0, 0), -5);
        DUE.is("finest: way 1", x.finest(1, 0, 0, 2), -5);
        DUE.is("finest: way -1", x.finest(-1, 0, 0, 0), -5);
    }

    private static void split() {
        GateRoad x = three(0);
        DUE.is("the n of two gates", x.split(0, 10, 24 + 10, 0), 1);
        DUE.is("the cost of two gates", x.split(0, 10, 24 + 10, 1), 5);
        DUE.is("all as the first", x.split(0, 10, 48, 0), 3);
        DUE.is("all as the first: cost", x.split(0, 10, 48, 1), 15);
        DUE.is("all as the others", x.split(0, 48, 10, 0), 0);
        DUE.is("alike: the least", x.split(0, 10, 10, 0), 0);
        DUE.is("alike: cost", x.split(0, 10, 10, 1), 15);
        x.split(0, 5, 6, 0);
        for (int c = 0; c < 3; c++) {
            DUE.is("the choice of " + c + " stays", x.wayTold(0, c), 10);
        }
        DUE.is("split: what -1", x.split(0, 0, 0, -1), GateRoad.NO);
        DUE.is("split: what 2", x.split(0, 0, 0, 2), GateRoad.NO);
        DUE.is("split: a 49", x.split(0, 49, 0, 0), GateRoad.NO);
        DUE.is("split: a -1", x.split(0, -1, 0, 0), GateRoad.NO);
        DUE.is("split: b 49", x.split(0, 0, 49, 0), GateRoad.NO);
        DUE.is("split: b -1", x.split(0, 0, -1, 0), GateRoad.NO);
        DUE.is("split: way 1", x.split(1, 0, 0, 0), GateRoad.NO);
        x.cart(0);
        DUE.is("of the carts that it is for", x.split(0, 10, 48, 0), 3);
    }

    private static void count() {
        GateRoad x = three(0);
        x.sort(1, 1, 1, 1);
        Host.text(x, "cost 1;lost 1;");
        Host.text(x, "cost 1;lost 1;");
        x.force(1);
        x.feed(0, 7);
        int[] want = {2, 3, 1, 3, 1, 7};
        for (int what = 0; what < 6; what++) {
            DUE.is("count(" + what + ")", x.count(what), want[what]);
        }
        DUE.is("count: -1", x.count(-1), -2);
        DUE.is("count: 6", x.count(6), -2);
    }

    private static void image() {
        GateRoad x = three(0);
        x.sort(3, 30, 4, 5);
        x.rate(1, 4, 6, 7);
        x.toll(0, 23, 8);
        Host.text(x, "cost 1;lost 1;");
        Host.way(x, 4, 1, 2, 3);
        DUE.is("no image yet", x.back(), -3);
        DUE.is("image", x.image(), 2);

        x.rate(1, 4, 6, 1);
        x.toll(0, 23, 9);
        x.wishes(0, 1);
        x.wishes(1, 2);
        x.set(0, 0, 48);
        x.set(1, 2, 48);
        x.force(1);
        x.sort(20, 1, 1, 1);
        x.wishes(2, 21);
        x.cart(2);
        Host.way(x, 2, 5, 6, 7, 8);
        Host.text(x, "cost 2;lost 2;");
        x.feed(0, 3);

        for (int again = 0; again < 2; again++) {
            DUE.is("back", x.back(), 3);
            DUE.is("the rate", x.gateTold(1, 4, 0), 7);
            DUE.is("the toll", x.gateTold(0, 23, 1), 8);
            DUE.is("wished of 0", x.sortTold(0, 0), 10);
            DUE.is("wished of 1", x.sortTold(1, 0), 3);
            DUE.is("way 0", x.wayTold(0, 0), 10);
            DUE.is("way 1", x.wayTold(1, 2), 3);
            DUE.is("the rule", x.count(4), 0);
            DUE.is("a sort that came since", x.sortTold(2, 0), 21);
            DUE.is("a way that came since", x.wayTold(2, 3), 8);
            DUE.is("a cart that came since", x.count(1), 4);
            DUE.is("a text that came since", x.count(3), 3);
            DUE.is("the tape", x.count(5), 3);
            DUE.is("a sheet", x.cell(3, 3, 1), 1);
            x.rate(1, 4, 5, 2);
            x.toll(0, 23, 1);
            x.wishes(0, 5);
            x.wishes(1, 6);
            x.set(0, 0, 7);
            x.set(1, 2, 8);
            x.force(2);
        }
        DUE.is("a second image", x.image(), 3);
        x.set(2, 3, 0);
        x.set(0, 0, 0);
        DUE.is("back to it", x.back(), 3);
        DUE.is("way 0 as in the second", x.wayTold(0, 0), 7);
        DUE.is("way 2 as in the second", x.wayTold(2, 3), 8);
        DUE.is("the rule as in the second", x.count(4), 2);
    }

    private static void imageOfLess() {
        GateRoad x = new GateRoad();
        DUE.is("image of nothing", x.image(), 0);
        x.sort(9, 1, 1, 1);
        x.cart(0);
        Host.way(x, 0, 4);
        x.rate(0, 0, 24, 5);
        DUE.is("back to nothing", x.back(), 1);
        DUE.is("the sort stays", x.sortTold(0, 0), 9);
        DUE.is("the way stays", x.wayTold(0, 0), 4);
        DUE.is("the rate is as it was", x.gateTold(0, 12, 0), 1);
    }
}
