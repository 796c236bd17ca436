/** Promises 19 to 22, and what "Terms" say of what is better: each sentence at its bounds. */
public final class EdgesOfRestTest {
    private static final Due DUE = new Due("EdgesOfRestTest");
    private static final Twins SOME = new Twins(DUE, Twins::some);
    private static final Twins CYCLE = new Twins(DUE, EdgesOfRestTest::cycle);
    private static final int MIN = Integer.MIN_VALUE, MAX = Integer.MAX_VALUE;
    // Of the object that SOME makes: it has two ways, each for three carts.
    private static final int[] NO_WAYS = {-1, 2, 8, MIN, MAX}, NO_CARTS = {-1, 3, 16, MIN, MAX};
    private static final int[] NO_CHOICES = {-1, 49, MIN, MAX};

    public static void main(String[] args) {
        betterIsLeast();
        othersAsTheyAre();
        lessThanItsOwn();
        ofLikeOnesTheLeast();
        firstRestless();
        move();
        judge();
        judgeBounds();
        judgeNone();
        judgeRefused();
        rest();
        restRefused();
        other();
        otherRefused();
        swap();
        swapAsMuch();
        swapRefused();
        DUE.end();
    }

    /** Carts of one sort, on roads of none, wished for in 10, staying so much; a way of a kind by these choices. */
    private static GateRoad by(int kind, int stays, int... choices) {
        GateRoad x = new GateRoad();
        x.sort(10, stays, 0, 0);
        for (int i = 0; i < choices.length; i++) {
            x.cart(0);
        }
        Host.way(x, kind, choices);
        return x;
    }

    private static void rule(GateRoad x, String cost) {
        x.force(Host.text(x, "cost " + cost + ";lost 0;"));
    }

    private static void judges(GateRoad x, int restless, int choice, int less) {
        DUE.is("who is restless", x.judge(0, 0), restless);
        DUE.is("its better choice", x.judge(0, 1), choice);
        DUE.is("by how much", x.judge(0, 2), less);
    }

    private static void betterIsLeast() {
        DUE.terms("BETTER for a CART is a CHOICE by which its COST is least");
        // Of all that are less than its own the one in time, though many are nearer by number.
        judges(by(0, 50, 0), 0, 10, 10);
        judges(by(0, 50, 20), 0, 10, 30);
        judges(by(0, 50, 24 + 11), 0, 10, 3);
        GateRoad x = by(0, 50, 0);
        x.rate(0, 0, 24, 0);
        judges(x, 0, 24 + 10, 5000);
        x.rate(1, 10, 11, 0);
        judges(x, 0, 24 + 9, 4999);
        x.rate(1, 0, 24, 0);
        judges(x, 0, 48, 4950);
    }

    private static void othersAsTheyAre() {
        DUE.terms("all others as they are");
        GateRoad x = by(0, 50, 10, 0);
        x.rate(1, 0, 24, 0);
        // Cart 0 has 10, cart 1 may have the minute ahead of it, behind none.
        judges(x, 1, 9, 10 - 1);
        // Who comes last passes first: cart 1 goes ahead of cart 0, which loses by it.
        GateRoad y = by(4, 50, 10, 0);
        y.rate(0, 10, 11, 0);
        y.rate(1, 0, 24, 0);
        DUE.is("cart 0 waits a minute", y.of(0, 0, 2), 2 + 3);
        judges(y, 0, 9, 5 - 1);
        y.set(0, 0, 9);
        judges(y, 1, 8, 10 - 2);
        y.set(0, 1, 8);
        judges(y, GateRoad.NONE, GateRoad.NONE, GateRoad.NONE);
    }

    private static void lessThanItsOwn() {
        DUE.terms("if it is less than by its own");
        GateRoad x = by(0, 50, 10);
        rule(x, "5");
        judges(x, GateRoad.NONE, GateRoad.NONE, GateRoad.NONE);
        rule(x, "50");
        judges(x, GateRoad.NONE, GateRoad.NONE, GateRoad.NONE);
        x.set(0, 0, 48);
        judges(x, GateRoad.NONE, GateRoad.NONE, GateRoad.NONE);
        rule(x, "51");
        judges(x, GateRoad.NONE, GateRoad.NONE, GateRoad.NONE);
        rule(x, "49");
        judges(x, 0, 0, 1);
        x.force(3);
        x.set(0, 0, 10);
        judges(x, 0, 48, 1);
    }

    private static void ofLikeOnesTheLeast() {
        DUE.terms("of like ones the least.");
        GateRoad x = by(0, 0, 20);
        // In time at gate 0 and at gate 1, and staying, cost nothing.
        judges(x, 0, 10, 30);
        x.rate(0, 10, 11, 0);
        judges(x, 0, 24 + 10, 30);
        x.rate(1, 10, 11, 0);
        judges(x, 0, 48, 30);
        // Its own costs as little as the least of them, and is not less.
        GateRoad y = by(0, 0, 24 + 10);
        judges(y, GateRoad.NONE, GateRoad.NONE, GateRoad.NONE);
        GateRoad z = by(0, 50, 20);
        rule(z, "minute<20");
        z.set(0, 0, 3);
        rule(z, "minute=3");
        judges(z, 0, 0, 1);
    }

    private static void firstRestless() {
        DUE.terms("RESTLESS: the first CART for which there is a BETTER one.");
        GateRoad x = by(0, 50, 10, 24 + 11, 0, 5);
        x.rate(1, 0, 24, 9);
        // Cart 2 would gain more than cart 1.
        judges(x, 1, 24 + 10, 3);
        x.set(0, 1, 24 + 10);
        judges(x, 2, 24 + 10, 10);
        x.set(0, 2, 24 + 10);
        judges(x, 3, 24 + 10, 5);
        x.set(0, 0, 9);
        judges(x, 0, 10, 1);
    }

    private static void move() {
        DUE.terms("A MOVE: it takes that.");
        GateRoad x = by(0, 50, 10, 24 + 11, 0, 5);
        x.rate(1, 0, 24, 9);
        int[] moves = {1, 2, 3};
        for (int c : moves) {
            DUE.is("a move", x.rest(0, 1), 1);
            for (int d = 1; d < 4; d++) {
                int was = d == 1 ? 24 + 11 : d == 2 ? 0 : 5;
                DUE.is("cart " + d + " behind the move of " + c, x.wayTold(0, d), d <= c ? 24 + 10 : was);
            }
        }
        DUE.is("cart 0 never moved", x.wayTold(0, 0), 10);
        DUE.is("all rest", x.rest(0, 1), 0);
    }

    private static void judge() {
        DUE.promise(19, "Of a WAY what 0 which CART is RESTLESS, 1 its BETTER CHOICE, 2 by how much that is less.");
        GateRoad x = by(1, 50, 10, 24 + 10, 9);
        x.toll(0, 9, 99);
        judges(x, 2, 24 + 9, 100 - 1);
        x.rate(1, 9, 10, 0);
        judges(x, 2, 8, 100 - 2);
        x.toll(0, 8, 1);
        judges(x, 2, 24 + 8, 100 - 2);
        Twins twins = new Twins(DUE, () -> by(1, 50, 10, 24 + 10, 8));
        twins.unchanged("to ask who", y -> y.judge(0, 0), 2);
        twins.unchanged("to ask for its choice", y -> y.judge(0, 1), 9);
        twins.unchanged("to ask by how much", y -> y.judge(0, 2), 1);
    }

    private static void judgeBounds() {
        DUE.promise(19, "Of a WAY what 0 which CART is RESTLESS, 1 its BETTER CHOICE, 2 by how much that is less.");
        GateRoad x = by(4, 999, 10);
        x.rate(0, 0, 10, 0);
        // Whoever waits more than 4 costs -9999, and is spared 2; else the most.
        rule(x, "9999-(4<wait)*9999*2");
        judges(x, 0, 0, 20000);
        GateRoad y = by(0, 0, 10);
        rule(y, "9999");
        judges(y, 0, 48, 9999);
        GateRoad z = new GateRoad();
        z.sort(0, 0, 0, 0);
        z.sort(0, 0, 0, 0);
        int[] stay = new int[16];
        for (int c = 0; c < 16; c++) {
            z.cart(c / 15);
            stay[c] = 48;
        }
        Host.way(z, 0, stay);
        rule(z, "0-sort");
        judges(z, 15, 0, 1);
    }

    private static void judgeNone() {
        DUE.promise(19, "NONE: none is.");
        for (int what = 0; what < 3; what++) {
            int asked = what;
            Twins twins = new Twins(DUE, () -> by(0, 50, 10, 24 + 10));
            twins.unchanged("what " + what, y -> y.judge(0, asked), GateRoad.NONE);
            Twins empty = new Twins(DUE, () -> by(0, 50));
            empty.unchanged("no carts, what " + what, y -> y.judge(0, asked), GateRoad.NONE);
        }
    }

    private static void judgeRefused() {
        DUE.promise(19, "-5: no such WAY; -7: what.");
        for (int w : NO_WAYS) {
            SOME.unchanged("way " + w, y -> y.judge(w, 0), -5);
            SOME.unchanged("way " + w + ", and no such what", y -> y.judge(w, 3), -5);
        }
        for (int what : new int[] {-1, 3, MIN, MAX}) {
            SOME.unchanged("what " + what, y -> y.judge(0, what), -7);
        }
        Twins resting = new Twins(DUE, () -> by(0, 50, 10));
        resting.unchanged("what 3, when none is restless", y -> y.judge(0, 3), -7);
        DUE.is("when there is no way", new GateRoad().judge(0, 0), -5);
    }

    /** Two carts that never rest: each fourth move brings them back to where they were. */
    private static GateRoad cycle() {
        GateRoad x = new GateRoad();
        x.sort(1, 2, 0, 0);
        x.sort(1, 7, 0, 0);
        Host.carts(x, 0, 1);
        x.rate(0, 0, 1, 0);
        x.rate(1, 0, 24, 0);
        Host.way(x, 0, 1, 0);
        return x;
    }

    private static void rest() {
        DUE.promise(20, "MOVES of a WAY, one by one, n (0 .. 8) at most: how many there were.");
        int[][] at = {{1, 0}, {0, 0}, {0, 2}, {1, 2}};
        for (int n = 0; n <= 8; n++) {
            GateRoad x = cycle();
            DUE.is("n " + n, x.rest(0, n), n);
            DUE.is("cart 0 behind " + n, x.wayTold(0, 0), at[n % 4][0]);
            DUE.is("cart 1 behind " + n, x.wayTold(0, 1), at[n % 4][1]);
        }
        GateRoad x = cycle();
        DUE.is("the most, again and again", x.rest(0, 8) + x.rest(0, 8) + x.rest(0, 7), 23);
        DUE.is("one by one", x.wayTold(0, 1), 2);
        GateRoad y = by(0, 50, 0, 0, 0);
        y.rate(0, 10, 11, 9);
        DUE.is("less than n", y.rest(0, 8), 3);
        DUE.is("none is left", y.rest(0, 8), 0);
        GateRoad z = by(0, 50, 0, 0, 0);
        z.rate(0, 10, 11, 9);
        DUE.is("as many as n", z.rest(0, 3), 3);
        DUE.is("none is left of these", z.rest(0, 1), 0);
        GateRoad many = by(0, 50, 0, 0, 0, 0, 0, 0, 0, 0, 0);
        many.rate(0, 10, 11, 9);
        DUE.is("eight of nine", many.rest(0, 8), 8);
        DUE.is("the ninth has not moved", many.wayTold(0, 8), 0);
        DUE.is("and then it does", many.rest(0, 8), 1);
        CYCLE.unchanged("n 0", w -> w.rest(0, 0), 0);
        CYCLE.unchanged("two times the cycle", w -> w.rest(0, 8), 8);
        Twins empty = new Twins(DUE, () -> by(0, 50));
        empty.unchanged("no carts", w -> w.rest(0, 8), 0);
    }

    private static void restRefused() {
        DUE.promise(20, "-5: no such WAY; -7: n.");
        for (int w : NO_WAYS) {
            SOME.unchanged("way " + w, y -> y.rest(w, 1), -5);
            SOME.unchanged("way " + w + ", and n 9", y -> y.rest(w, 9), -5);
        }
        for (int n : new int[] {-1, 9, MIN, MAX}) {
            CYCLE.unchanged("n " + n, y -> y.rest(0, n), -7);
        }
    }

    /** Carts of two sorts that throng about a gate which opens in 9, and one of each kind of way for them. */
    private static GateRoad throng() {
        GateRoad x = new GateRoad();
        x.sort(10, 50, 1, 9);
        x.sort(9, 20, 3, 0);
        Host.carts(x, 0, 1, 1, 0, 1, 0);
        x.rate(0, 0, 9, 0);
        x.rate(0, 10, 11, 2);
        x.rate(1, 12, 13, 0);
        x.toll(0, 9, 11);
        x.toll(0, 11, 7);
        x.toll(1, 13, 9);
        for (int kind = 0; kind < 6; kind++) {
            Host.way(x, kind, 5, 3, 3, 24 + 4, 24 + 12, 6);
        }
        return x;
    }

    private static void other() {
        DUE.promise(21, "COST of a CART, if it had a CHOICE.");
        for (int w = 0; w < 6; w++) {
            for (int c = 0; c < 6; c++) {
                GateRoad x = throng();
                GateRoad y = throng();
                for (int choice = 0; choice <= 48; choice++) {
                    y.set(w, c, choice);
                    DUE.is("way " + w + ", cart " + c + ", " + choice, x.other(w, c, choice), y.of(w, c, 2));
                }
            }
        }
        GateRoad x = by(0, 50, 10);
        DUE.is("its own", x.other(0, 0, 10), 0);
        DUE.is("the least choice", x.other(0, 0, 0), 10);
        DUE.is("the last minute of gate 0", x.other(0, 0, 23), 39);
        DUE.is("the first of gate 1", x.other(0, 0, 24), 10);
        DUE.is("the last of gate 1", x.other(0, 0, 47), 39);
        DUE.is("the most", x.other(0, 0, 48), 50);
        Twins twins = new Twins(DUE, EdgesOfRestTest::throng);
        twins.unchanged("to ask", y -> y.other(5, 5, 48), 50);
        twins.unchanged("to ask for its own", y -> y.other(0, 0, 5), 2 * 3 + 1);
    }

    private static void otherRefused() {
        DUE.promise(21, "-10000: none such.");
        for (int w : NO_WAYS) {
            SOME.unchanged("way " + w, y -> y.other(w, 0, 0), -10000);
        }
        for (int c : NO_CARTS) {
            SOME.unchanged("cart " + c, y -> y.other(0, c, 0), -10000);
        }
        for (int choice : NO_CHOICES) {
            SOME.unchanged("choice " + choice, y -> y.other(1, 2, choice), -10000);
        }
        Twins later = new Twins(DUE, () -> {
            GateRoad y = Twins.some();
            y.cart(0);
            return y;
        });
        later.unchanged("a cart that the way isn't for", y -> y.other(0, 3, 0), -10000);
    }

    /** Two carts of two sorts, wished for in these minutes, in a way by these choices. */
    private static GateRoad two(int wishedA, int wishedB, int a, int b) {
        GateRoad x = new GateRoad();
        x.sort(wishedA, 50, 0, 0);
        x.sort(wishedB, 50, 0, 0);
        Host.carts(x, 0, 1);
        Host.way(x, 0, a, b);
        return x;
    }

    private static void swap() {
        DUE.promise(22, "Two CARTS change CHOICES by a WAY, if the COST of each is less then: 1;");
        GateRoad x = two(5, 6, 6, 5);
        x.rate(0, 5, 6, 1);
        // Cart 0 is late by 1, cart 1 early by 1; the other way about both are in time.
        DUE.is("both gain", x.swap(0, 0, 1), 1);
        DUE.is("cart 0's choice", x.wayTold(0, 0), 5);
        DUE.is("cart 1's choice", x.wayTold(0, 1), 6);
        DUE.is("and no more", x.swap(0, 0, 1), 0);
        GateRoad y = two(5, 6, 6, 5);
        DUE.is("the greater cart first", y.swap(0, 1, 0), 1);
        DUE.is("it is the same", y.wayTold(0, 0), 5);
        GateRoad last = Twins.full();
        last.set(7, 14, 48);
        last.set(7, 15, 0);
        last.wishes(3, 15);
        DUE.is("carts 14 and 15", last.swap(7, 14, 15), 0);
        GateRoad z = new GateRoad();
        z.sort(5, 999, 0, 0);
        z.sort(6, 999, 0, 0);
        int[] choices = new int[16];
        for (int c = 0; c < 16; c++) {
            z.cart(c % 2);
            choices[c] = 48;
        }
        choices[0] = 6;
        choices[15] = 5;
        Host.way(z, 0, choices);
        DUE.is("the first and the last", z.swap(0, 15, 0), 1);
        DUE.is("the last's choice", z.wayTold(0, 15), 6);
        for (int c = 1; c < 15; c++) {
            DUE.is("cart " + c + " stays", z.wayTold(0, c), 48);
        }
    }

    private static void swapAsMuch() {
        DUE.promise(22, "if the COST of each is less then: 1; else 0 (nothing changes).");
        Twins gain = new Twins(DUE, () -> two(5, 5, 6, 24 + 4));
        // Late by 1 costs 3, early by 1 costs 1: one gains, one loses.
        gain.unchanged("cart 0 gains, cart 1 loses", y -> y.swap(0, 0, 1), 0);
        gain.unchanged("told the other way about", y -> y.swap(0, 1, 0), 0);
        Twins alike = new Twins(DUE, () -> two(5, 5, 5, 24 + 5));
        alike.unchanged("as much for both", y -> y.swap(0, 0, 1), 0);
        Twins same = new Twins(DUE, () -> two(5, 9, 7, 7));
        same.unchanged("alike choices", y -> y.swap(0, 0, 1), 0);
        Twins stay = new Twins(DUE, () -> two(5, 9, 48, 48));
        stay.unchanged("both stay", y -> y.swap(0, 0, 1), 0);
        Twins first = new Twins(DUE, () -> twoBy("sort*(early+late)"));
        first.unchanged("as much for cart 0, less for cart 1", y -> y.swap(0, 0, 1), 0);
        first.unchanged("as much for the second told", y -> y.swap(0, 1, 0), 0);
        Twins second = new Twins(DUE, () -> twoBy("(1-sort)*(early+late)"));
        second.unchanged("less for cart 0, as much for cart 1", y -> y.swap(0, 0, 1), 0);
        second.unchanged("as much for the first told", y -> y.swap(0, 1, 0), 0);
        Twins worse = new Twins(DUE, () -> two(6, 5, 6, 5));
        worse.unchanged("more for both", y -> y.swap(0, 0, 1), 0);
    }

    /** By THE RULE at first both would gain by a change. */
    private static GateRoad twoBy(String cost) {
        GateRoad x = two(5, 6, 6, 5);
        rule(x, cost);
        return x;
    }

    private static void swapRefused() {
        DUE.promise(22, "-5: WAY, CARTS; -7: alike.");
        for (int w : NO_WAYS) {
            SOME.unchanged("way " + w, y -> y.swap(w, 0, 1), -5);
            SOME.unchanged("way " + w + ", and alike", y -> y.swap(w, 1, 1), -5);
        }
        for (int c : NO_CARTS) {
            SOME.unchanged("cart " + c + " first", y -> y.swap(0, c, 1), -5);
            SOME.unchanged("cart " + c + " second", y -> y.swap(0, 1, c), -5);
            SOME.unchanged("cart " + c + ", and alike", y -> y.swap(0, c, c), -5);
        }
        for (int c = 0; c < 3; c++) {
            int cart = c;
            SOME.unchanged("alike: " + c, y -> y.swap(1, cart, cart), -7);
        }
    }
}
