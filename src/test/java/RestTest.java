/** Promises 19 to 22: who would be better off otherwise, moves, changes of two. */
public final class RestTest {
    private static final Due DUE = new Due("RestTest");

    public static void main(String[] args) {
        judge();
        ties();
        rest();
        other();
        otherInTheMidst();
        swap();
        DUE.end();
    }

    /** One sort that wishes to be through by 12, a road of 1, staying 5. */
    private static GateRoad some(int kind, int... choices) {
        GateRoad x = new GateRoad();
        x.sort(12, 5, 1, 1);
        for (int i = 0; i < choices.length; i++) {
            x.cart(0);
        }
        Host.way(x, kind, choices);
        return x;
    }

    private static void judge() {
        GateRoad x = some(0, 11, 0, 3);
        DUE.is("the restless", x.judge(0, 0), 1);
        // Cart 1 passes in 1, eleven too early; at gate 1 it would be in time.
        DUE.is("its better choice", x.judge(0, 1), 24 + 11);
        DUE.is("by how much", x.judge(0, 2), 11);
        DUE.is("nothing moved", x.wayTold(0, 1), 0);
        x.set(0, 1, 24 + 11);
        DUE.is("then the next", x.judge(0, 0), 2);
        // Cart 2 would pass in 11 by choice 10, one too early, or wait from 12 to 13.
        DUE.is("its choice", x.judge(0, 1), 10);
        DUE.is("its gain", x.judge(0, 2), 8 - 1);
        x.set(0, 2, 10);
        for (int what = 0; what < 3; what++) {
            DUE.is("none is restless: " + what, x.judge(0, what), -1);
        }
        DUE.is("judge: what -1", x.judge(0, -1), -7);
        DUE.is("judge: what 3", x.judge(0, 3), -7);
        DUE.is("judge: way 1", x.judge(1, 3), -5);
        DUE.is("judge: way -1", x.judge(-1, 0), -5);
    }

    private static void ties() {
        GateRoad x = some(0, 11, 48);
        DUE.is("from staying", x.judge(0, 0), 1);
        DUE.is("the least that is as good", x.judge(0, 1), 24 + 11);
        x.set(0, 0, 24 + 11);
        DUE.is("of like ones the least", x.judge(0, 1), 11);
        x.set(0, 0, 48);
        DUE.is("of like ones the least of two gates", x.judge(0, 1), 11);
        x.set(0, 0, 24 + 11);
        Host.text(x, "cost 5;lost 0;");
        x.force(1);
        DUE.is("as much is not better", x.judge(0, 0), -1);
        Host.text(x, "cost 6;lost 0;");
        x.force(2);
        DUE.is("staying is better for the first", x.judge(0, 0), 0);
        DUE.is("its choice is to stay", x.judge(0, 1), 48);
        DUE.is("by one", x.judge(0, 2), 1);
        x = some(0, 23);
        DUE.is("never passing", x.judge(0, 2), 5000);
        Host.text(x, "cost 0-minute;lost 0;");
        x.force(1);
        DUE.is("the last minute", x.judge(0, 1), 22);
    }

    private static void rest() {
        GateRoad x = some(0, 0, 0, 0);
        DUE.is("no moves", x.rest(0, 0), 0);
        DUE.is("nothing moved", x.wayTold(0, 0), 0);
        DUE.is("one move", x.rest(0, 1), 1);
        DUE.is("cart 0 took its better choice", x.wayTold(0, 0), 11);
        DUE.is("cart 1 did not", x.wayTold(0, 1), 0);
        DUE.is("till all rest", x.rest(0, 8), 2);
        DUE.is("cart 1", x.wayTold(0, 1), 24 + 11);
        DUE.is("cart 2", x.wayTold(0, 2), 10);
        DUE.is("all rest", x.rest(0, 8), 0);
        DUE.is("rest: n -1", x.rest(0, -1), -7);
        DUE.is("rest: n 9", x.rest(0, 9), -7);
        DUE.is("rest: way 1", x.rest(1, 9), -5);
        DUE.is("rest: way -1", x.rest(-1, 0), -5);
        x = some(0, 0, 0, 0, 0, 0, 0, 0, 0, 0);
        DUE.is("eight at most", x.rest(0, 8), 8);
        DUE.is("one more", x.rest(0, 8) > 0 ? 1 : 0, 1);
        // Who comes last passes first: each move to a later minute unsettles the one ahead.
        x = some(4, 11, 11);
        DUE.is("a last one's better choice", x.judge(0, 1), 24 + 11);
    }

    private static void other() {
        GateRoad x = some(0, 11, 0);
        DUE.is("as it is", x.other(0, 0, 11), 0);
        DUE.is("to stay", x.other(0, 0, 48), 5);
        DUE.is("never to pass", x.other(0, 0, 23), 5000);
        DUE.is("behind the other", x.other(0, 1, 11), 2 + 3);
        DUE.is("ahead of the other", x.other(0, 1, 10), 1);
        DUE.is("the other gate", x.other(0, 1, 24 + 11), 0);
        DUE.is("nothing changed", x.wayTold(0, 1), 0);
        DUE.is("other: choice -1", x.other(0, 0, -1), -10000);
        DUE.is("other: choice 49", x.other(0, 0, 49), -10000);
        DUE.is("other: cart 2", x.other(0, 2, 0), -10000);
        DUE.is("other: cart -1", x.other(0, -1, 0), -10000);
        DUE.is("other: way 1", x.other(1, 0, 0), -10000);
        DUE.is("other: way -1", x.other(-1, 0, 0), -10000);
    }

    /** A cart with others ahead of it and behind it, in each order. */
    private static void otherInTheMidst() {
        GateRoad x = new GateRoad();
        x.sort(0, 999, 0, 0);
        x.sort(0, 999, 0, 0);
        Host.carts(x, 0, 1, 0, 1, 0);
        x.rate(0, 0, 12, 0);
        x.rate(0, 14, 15, 2);
        for (int kind = 0; kind < 6; kind++) {
            Host.way(x, kind, 5, 7, 48, 5, 8);
        }
        Host.text(x, "cost minute;lost 0;");
        x.force(1);
        // Cart 2 comes in 5 or 7; they pass in 12, 13, 14, 14, 15.
        // By when they came: 0 (5), 3 (5), 1 (7), 4 (8). By number: 0, 1, 3, 4. As drawn: 3 (1), 0 (3), 4 (6), 1 (8),
        // and cart 2 has 13. The last first, 2 spared if it waits more than 4. Less 3 times the sort: 3 (2), 1 (4),
        // 0 (5), 4 (8).
        int[][] want = {{13, 14}, {13, 14}, {14, 14}, {15, 15}, {14 - 2, 14 - 2}, {14, 14}};
        for (int kind = 0; kind < 6; kind++) {
            DUE.is("kind " + kind + ": in 5", x.other(kind, 2, 5), want[kind][0]);
            DUE.is("kind " + kind + ": in 7", x.other(kind, 2, 7), want[kind][1]);
            DUE.is("kind " + kind + ": in 15, behind all", x.other(kind, 2, 15), 15);
            DUE.is("kind " + kind + ": alone", x.other(kind, 2, 24), 0);
        }
    }

    private static void swap() {
        GateRoad x = new GateRoad();
        x.sort(5, 50, 0, 0);
        x.sort(9, 50, 0, 0);
        Host.carts(x, 0, 1, 0);
        Host.way(x, 0, 9, 24 + 5, 48);
        DUE.is("both gain", x.swap(0, 0, 1), 1);
        DUE.is("cart 0's choice", x.wayTold(0, 0), 24 + 5);
        DUE.is("cart 1's choice", x.wayTold(0, 1), 9);
        DUE.is("both lose", x.swap(0, 0, 1), 0);
        DUE.is("nothing changed of 0", x.wayTold(0, 0), 24 + 5);
        DUE.is("nothing changed of 1", x.wayTold(0, 1), 9);
        DUE.is("one gains, one loses", x.swap(0, 2, 0), 0);
        x.set(0, 0, 9);
        x.set(0, 1, 9);
        DUE.is("alike choices gain nothing", x.swap(0, 0, 1), 0);
        x.set(0, 0, 4);
        x.set(0, 1, 10);
        DUE.is("neither gains", x.swap(0, 1, 0), 0);
        x.wishes(1, 4);
        DUE.is("cart 0 gains nothing by passing in 10", x.swap(0, 0, 1), 0);
        x.wishes(0, 10);
        DUE.is("both gain again", x.swap(0, 1, 0), 1);
        // By this rule nothing costs cart 0 anything: cart 1 alone would gain.
        Host.text(x, "cost sort*(early+late);lost 0;");
        x.force(1);
        x.set(0, 0, 4);
        x.set(0, 1, 10);
        DUE.is("alike for the first", x.swap(0, 0, 1), 0);
        DUE.is("alike for the second", x.swap(0, 1, 0), 0);
        DUE.is("swap: alike carts", x.swap(0, 1, 1), -7);
        DUE.is("swap: cart 3", x.swap(0, 3, 0), -5);
        DUE.is("swap: cart 3 as the second", x.swap(0, 0, 3), -5);
        DUE.is("swap: cart -1", x.swap(0, -1, -1), -5);
        DUE.is("swap: alike carts that aren't", x.swap(0, 3, 3), -5);
        DUE.is("swap: way 1", x.swap(1, 0, 0), -5);
        DUE.is("swap: way -1", x.swap(-1, 0, 1), -5);
    }
}
