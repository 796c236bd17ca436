/** Promises 12 to 18, and what "Terms" say of choices, ways, kinds, the line and costs: each sentence at its bounds. */
public final class EdgesOfWaysTest {
    private static final Due DUE = new Due("EdgesOfWaysTest");
    private static final Twins SOME = new Twins(DUE, Twins::some);
    private static final Twins FULL = new Twins(DUE, Twins::full);
    private static final int MIN = Integer.MIN_VALUE, MAX = Integer.MAX_VALUE;
    private static final int[] NO_GATES = {-1, 2, MIN, MAX}, NO_MINUTES = {-1, 24, MIN, MAX};
    private static final int[] NO_CHOICES = {-1, 49, MIN, MAX};
    // Of the object that SOME makes: it has two ways, each for three carts.
    private static final int[] NO_WAYS = {-1, 2, 8, MIN, MAX}, NO_CARTS = {-1, 3, 16, MIN, MAX};

    public static void main(String[] args) {
        choices();
        wayNumbers();
        cartsAsItIsTold();
        likeOnes();
        wayKind();
        tolledKind();
        numberedKind();
        drawnKind();
        lastOrder();
        lastSpared();
        sortedOrder();
        sortedPaid();
        asOfTheKindAbove();
        cameByRoad();
        beyond23();
        minuteByMinute();
        inThisMinuteToo();
        asManyAsTheRate();
        stayingCosts();
        neverPasses();
        lessWhatIsSpared();
        lost();
        wayBySheet();
        wayRefused();
        wayFull();
        wayTold();
        wayToldRefused();
        set();
        setRefused();
        of();
        ofRefused();
        line();
        lineRefused();
        passes();
        passesRefused();
        sum();
        sumRefused();
        DUE.end();
    }

    /** Carts of one sort, on roads of none, wished for in 10, staying 50; a way of a kind by these choices. */
    private static GateRoad by(int kind, int... choices) {
        GateRoad x = new GateRoad();
        x.sort(10, 50, 0, 0);
        for (int i = 0; i < choices.length; i++) {
            x.cart(0);
        }
        Host.way(x, kind, choices);
        return x;
    }

    private static void passInOrder(GateRoad x, int w, int... carts) {
        DUE.is("way " + w + ": how many pass", x.passes(w, -1), carts.length);
        for (int i = 0; i < carts.length; i++) {
            DUE.is("way " + w + ": the " + i + "-th that passes", x.passes(w, i), carts[i]);
        }
    }

    private static void choices() {
        DUE.terms("A CHOICE: 0 .. 23 to set out in that MINUTE for GATE 0, 24 .. 47 (24 more) for GATE 1, 48 to STAY.");
        GateRoad x = by(0, 0, 23, 24, 47, 48);
        x.rate(0, 0, 24, 0);
        x.rate(1, 0, 24, 0);
        int[] came = {0, 23, 0, 23, -1};
        for (int c = 0; c < 5; c++) {
            DUE.is("when cart " + c + " came", x.of(0, c, 0), came[c]);
        }
        for (int g = 0; g < 2; g++) {
            DUE.is("at gate " + g + " in 0", x.line(0, g, 0), 1);
            DUE.is("at gate " + g + " in 22", x.line(0, g, 22), 1);
            DUE.is("at gate " + g + " in 23", x.line(0, g, 23), 2);
        }
        DUE.is("who stays costs that", x.of(0, 4, 2), 50);
        for (int choice = 0; choice <= 48; choice++) {
            x.set(0, 0, choice);
            DUE.is("came by " + choice, x.of(0, 0, 0), choice == 48 ? -1 : choice % 24);
            DUE.is("waits at gate 0 by " + choice, x.line(0, 0, 23), choice < 24 ? 2 : 1);
            DUE.is("waits at gate 1 by " + choice, x.line(0, 1, 23), choice >= 24 && choice < 48 ? 3 : 2);
        }
        for (int choice : NO_CHOICES) {
            DUE.is("no choice: " + choice, x.set(0, 0, choice), -7);
        }
    }

    private static void wayNumbers() {
        DUE.terms("WAYS are numbered from 0 on, 8 at most");
        GateRoad x = new GateRoad();
        x.sort(10, 50, 0, 0);
        x.cart(0);
        for (int w = 0; w < 8; w++) {
            DUE.is("no way " + w + " yet", x.wayTold(w, -1), -5);
            DUE.is("way " + w, Host.way(x, w % 6, w), w);
            DUE.is("how many", x.count(2), w + 1);
        }
        DUE.is("one more", Host.way(x, 0, 0), GateRoad.FULL);
        DUE.is("still eight", x.count(2), 8);
        DUE.is("no way 8", x.wayTold(8, -1), -5);
        for (int w = 0; w < 8; w++) {
            DUE.is("choice by way " + w, x.wayTold(w, 0), w);
        }
    }

    private static void cartsAsItIsTold() {
        DUE.terms("of a KIND, a CHOICE for each CART that there is as it is told.");
        GateRoad x = by(2, 0);
        x.rate(0, 0, 24, 0);
        x.cart(0);
        DUE.is("for one", x.wayTold(0, -2), 1);
        DUE.is("cart 1 has no choice", x.wayTold(0, 1), -7);
        DUE.is("and gets none", x.set(0, 1, 0), -5);
        DUE.is("nor is it asked of", x.of(0, 1, 2), -10000);
        DUE.is("it costs nothing", x.sum(0, 0), 5000);
        DUE.is("one waits", x.line(0, 0, 23), 1);
        DUE.is("the next is for two", Host.way(x, 3, 1, 2), 1);
        DUE.is("for how many", x.wayTold(1, -2), 2);
        DUE.is("its kind", x.wayTold(1, -1), 3);
        DUE.is("the first's kind", x.wayTold(0, -1), 2);
        DUE.is("cart 1's choice", x.wayTold(1, 1), 2);
        GateRoad full = Twins.full();
        DUE.is("for sixteen", full.wayTold(7, -2), 16);
        DUE.is("cart 15's choice", full.wayTold(7, 15), 45);
        DUE.is("no cart 16", full.wayTold(7, 16), -7);
    }

    private static void likeOnes() {
        DUE.terms("KINDS: ORDER (by a number, the least first, of like ones the lesser CART), what is PAID of a TOLL,"
                + " what is SPARED.");
        GateRoad x = by(0, 5, 4, 5, 3, 4);
        x.rate(0, 0, 6, 0);
        passInOrder(x, 0, 3, 1, 4, 0, 2);
        GateRoad y = by(0, 5, 5, 5, 5, 5, 5, 5, 5, 5, 5, 5, 5, 5, 5, 5, 5);
        passInOrder(y, 0, 0, 1, 2, 3, 4, 5, 6, 7, 8, 9, 10, 11, 12, 13, 14, 15);
    }

    private static void wayKind() {
        DUE.terms("0 WAY: the MINUTE in which it CAME; 0; 0.");
        GateRoad x = new GateRoad();
        x.sort(10, 50, 0, 0);
        x.sort(10, 50, 3, 0);
        Host.carts(x, 0, 1, 0, 1);
        x.rate(0, 0, 23, 0);
        x.rate(0, 23, 24, 9);
        x.toll(0, 23, 99);
        // They come in 5, 6, 4, 3.
        Host.way(x, 0, 5, 3, 4, 0);
        passInOrder(x, 0, 3, 2, 0, 1);
        DUE.is("nothing is paid", x.of(0, 3, 3), 0);
        DUE.is("nothing is spared", x.of(0, 3, 2), 20 * 2 + 13 * 3);
    }

    private static void tolledKind() {
        DUE.terms("1 TOLLED (a WAY): PAID: the TOLL.");
        GateRoad x = by(1, 5, 5, 24 + 5);
        x.toll(0, 5, 99);
        x.toll(0, 6, 1);
        x.toll(1, 5, 50);
        DUE.is("the most", x.of(0, 0, 3), 99);
        DUE.is("of the minute in which it passed", x.of(0, 1, 3), 1);
        DUE.is("of its gate", x.of(0, 2, 3), 50);
        x.toll(0, 5, 0);
        DUE.is("the least", x.of(0, 0, 3), 0);
    }

    private static void numberedKind() {
        DUE.terms("2 NUMBERED (a WAY): ORDER: the CART's number.");
        GateRoad x = by(2, 12, 3, 23, 0, 3);
        x.rate(0, 0, 12, 0);
        // Cart 0 comes in 12 and passes ahead of all that wait; cart 2 comes when they are through.
        passInOrder(x, 0, 0, 1, 3, 4, 2);
        DUE.is("cart 0 passes in 12", x.of(0, 0, 1), 12);
        DUE.is("cart 1 in 13", x.of(0, 1, 1), 13);
        DUE.is("cart 3 in 14", x.of(0, 3, 1), 14);
    }

    private static void drawnKind() {
        DUE.terms("3 DRAWN (a NUMBERED): (5 times a NUMBERED's, and 3) modulo 17.");
        GateRoad x = by(3, 0, 0, 0, 0, 0, 0, 0, 0, 0, 0, 0, 0, 0, 0, 0, 0);
        // Cart 0 .. 15: 3 8 13 1 6 11 16 4 9 14 2 7 12 0 5 10.
        passInOrder(x, 0, 13, 3, 10, 0, 7, 14, 4, 11, 1, 8, 15, 5, 12, 2, 9, 6);
        x.rate(0, 0, 15, 0);
        x.rate(0, 15, 16, 9);
        x.set(0, 6, 9);
        DUE.is("the last, whenever it came", x.of(0, 6, 1), 22);
    }

    private static void lastOrder() {
        DUE.terms("4 LAST (a WAY): ORDER: a WAY's, below 0 (that number taken from 0)");
        GateRoad x = by(4, 0, 5, 4, 5, 0);
        x.rate(0, 0, 6, 0);
        passInOrder(x, 0, 1, 3, 2, 0, 4);
        x.set(0, 4, 7);
        // It comes in 7, behind cart 1 and ahead of cart 3.
        passInOrder(x, 0, 1, 4, 3, 2, 0);
    }

    private static void lastSpared() {
        DUE.terms("SPARED 2, if it waited more than 4 MINUTES.");
        GateRoad x = by(4, 6);
        DUE.is("waited 0", x.of(0, 0, 2), 4);
        x.rate(0, 0, 10, 0);
        DUE.is("waited 4", x.of(0, 0, 2), 8);
        x.set(0, 0, 5);
        DUE.is("waited 5", x.of(0, 0, 2), 10 - 2);
        x.set(0, 0, 4);
        DUE.is("waited 6", x.of(0, 0, 2), 12 - 2);
        x.rate(0, 0, 23, 0);
        x.set(0, 0, 0);
        DUE.is("waited 23", x.of(0, 0, 2), 46 + 39 - 2);
        DUE.is("lost is not spared", x.of(0, 0, 4), 23);
        x.rate(0, 0, 24, 0);
        DUE.is("who never passes is spared nothing", x.of(0, 0, 2), 5000);
        x.set(0, 0, 48);
        DUE.is("who stays neither", x.of(0, 0, 2), 50);
    }

    private static void sortedOrder() {
        DUE.terms("5 SORTED (a TOLLED): ORDER: a TOLLED's less 3 times its SORT");
        GateRoad x = new GateRoad();
        for (int s = 0; s < 4; s++) {
            x.sort(10, 50, 0, 0);
        }
        Host.carts(x, 0, 1, 1, 1, 3, 3, 2);
        x.rate(0, 0, 15, 0);
        // 5, 8 - 3, 7 - 3, 9 - 3, 14 - 9, 0 - 9, 11 - 6.
        Host.way(x, 5, 5, 8, 7, 9, 14, 0, 11);
        passInOrder(x, 0, 5, 2, 0, 1, 4, 6, 3);
    }

    private static void sortedPaid() {
        DUE.terms("PAID half (cut) of a TOLLED's.");
        GateRoad x = by(5, 5);
        int[][] halves = {{0, 0}, {1, 0}, {2, 1}, {3, 1}, {98, 49}, {99, 49}};
        for (int[] h : halves) {
            x.toll(0, 5, h[0]);
            DUE.is("of " + h[0], x.of(0, 0, 3), h[1]);
            DUE.is("in the cost, of " + h[0], x.of(0, 0, 2), 5 + h[1]);
        }
    }

    private static void asOfTheKindAbove() {
        DUE.terms("(Whatever isn't told is as of the KIND above.)");
        GateRoad x = new GateRoad();
        x.sort(10, 50, 0, 0);
        x.sort(10, 50, 0, 0);
        Host.carts(x, 0, 0, 0, 1);
        x.rate(0, 0, 10, 0);
        x.rate(0, 10, 11, 9);
        x.toll(0, 10, 9);
        int[] paid = {0, 9, 0, 0, 0, 4};
        int[] spared = {0, 0, 0, 0, 2, 0};
        int[][] order = {{1, 3, 2, 0}, {1, 3, 2, 0}, {0, 1, 2, 3}, {3, 0, 1, 2}, {0, 2, 1, 3}, {3, 1, 2, 0}};
        for (int kind = 0; kind < 6; kind++) {
            Host.way(x, kind, 5, 3, 4, 3);
            passInOrder(x, kind, order[kind]);
            DUE.is("paid by kind " + kind, x.of(kind, 1, 3), paid[kind]);
            DUE.is("cost by kind " + kind, x.of(kind, 1, 2), 14 + paid[kind] - spared[kind]);
        }
    }

    private static void cameByRoad() {
        DUE.terms("THE LINE of a WAY: a CART CAME to its GATE in the MINUTE of its CHOICE and as many more as its road"
                + " takes");
        GateRoad x = new GateRoad();
        x.sort(10, 50, 0, 9);
        x.sort(10, 50, 4, 1);
        Host.carts(x, 0, 0, 1, 1);
        Host.way(x, 0, 0, 24, 7, 24 + 7);
        int[] came = {0, 9, 11, 8};
        for (int c = 0; c < 4; c++) {
            DUE.is("cart " + c, x.of(0, c, 0), came[c]);
            DUE.is("cart " + c + " passes", x.of(0, c, 1), came[c]);
        }
    }

    private static void beyond23() {
        DUE.terms("(beyond 23 it never does, nor if it STAYS)");
        GateRoad x = new GateRoad();
        x.sort(10, 50, 9, 1);
        x.cart(0);
        Host.way(x, 4, 0);
        int[][] came = {{14, 23}, {15, -1}, {16, -1}, {23, -1}, {24 + 22, 23}, {24 + 23, -1}, {48, -1}, {13, 22}};
        for (int[] c : came) {
            x.set(0, 0, c[0]);
            DUE.is("came by " + c[0], x.of(0, 0, 0), c[1]);
            DUE.is("passed by " + c[0], x.of(0, 0, 1), c[1]);
            DUE.is("how many pass by " + c[0], x.passes(0, -1), c[1] < 0 ? 0 : 1);
        }
        x.rate(0, 0, 24, 0);
        x.rate(1, 0, 24, 0);
        int[][] waits = {{14, 1, 0}, {15, 0, 0}, {24 + 22, 0, 1}, {24 + 23, 0, 0}, {48, 0, 0}};
        for (int[] v : waits) {
            x.set(0, 0, v[0]);
            DUE.is("waits at gate 0 by " + v[0], x.line(0, 0, 23), v[1]);
            DUE.is("waits at gate 1 by " + v[0], x.line(0, 1, 23), v[2]);
        }
    }

    private static void minuteByMinute() {
        DUE.terms("MINUTE by MINUTE, GATE 0, then 1");
        GateRoad x = by(0, 24 + 5, 5, 24 + 4, 6, 24 + 23, 23);
        passInOrder(x, 0, 2, 1, 0, 3, 5, 4);
    }

    private static void inThisMinuteToo() {
        DUE.terms("of those that CAME (in this MINUTE, too) and haven't PASSED there");
        GateRoad x = by(0, 5, 5, 5, 23);
        x.rate(0, 0, 24, 2);
        DUE.is("in the minute in which it came", x.of(0, 0, 1), 5);
        DUE.is("in the last", x.of(0, 3, 1), 23);
        DUE.is("not ahead of that", x.line(0, 0, 4), 0);
        // Who has passed takes nobody's place in the minute behind it.
        DUE.is("the third", x.of(0, 2, 1), 6);
        passInOrder(x, 0, 0, 1, 2, 3);
    }

    private static void asManyAsTheRate() {
        DUE.terms("as many PASS as the RATE tells, one by one, by the ORDER; the others wait.");
        GateRoad x = by(2, 5, 5, 5, 5, 5, 5, 5, 5, 5, 5, 5, 5, 5, 5, 5, 5);
        x.rate(0, 5, 6, 9);
        x.rate(0, 6, 7, 0);
        x.rate(0, 8, 9, 9);
        DUE.is("nine, the most", x.line(0, 0, 5), 7);
        DUE.is("none, the least", x.line(0, 0, 6), 7);
        DUE.is("one", x.line(0, 0, 7), 6);
        DUE.is("no more than there are", x.line(0, 0, 8), 0);
        DUE.is("the ninth", x.of(0, 8, 1), 5);
        DUE.is("the tenth", x.of(0, 9, 1), 7);
        DUE.is("the eleventh", x.of(0, 10, 1), 8);
        DUE.is("the sixteenth", x.of(0, 15, 1), 8);
        DUE.is("all pass", x.passes(0, -1), 16);
        x.rate(0, 0, 24, 0);
        DUE.is("none by no rate", x.passes(0, -1), 0);
        DUE.is("all wait", x.line(0, 0, 23), 16);
    }

    private static void stayingCosts() {
        DUE.terms("COST of a CART: what STAYING costs, if it STAYS");
        GateRoad x = new GateRoad();
        x.sort(0, 0, 0, 0);
        x.sort(0, 999, 0, 0);
        Host.carts(x, 0, 1);
        Host.way(x, 1, 48, 48);
        DUE.is("the least", x.of(0, 0, 2), 0);
        DUE.is("the most", x.of(0, 1, 2), 999);
        x.rate(0, 0, 24, 0);
        Host.text(x, "cost 1;lost 1;");
        x.force(1);
        DUE.is("whatever the rule", x.of(0, 1, 2), 999);
    }

    private static void neverPasses() {
        DUE.terms("5000, if it never PASSES");
        GateRoad x = by(0, 0, 23, 5);
        x.rate(0, 0, 24, 0);
        DUE.is("it waits from 0 on", x.of(0, 0, 2), 5000);
        DUE.is("it waits in 23", x.of(0, 1, 2), 5000);
        x.rate(0, 23, 24, 1);
        DUE.is("it passes in the last minute", x.of(0, 0, 2), 46 + 39);
        DUE.is("nobody else does", x.of(0, 1, 2), 5000);
        x.sort(0, 0, 1, 1);
        Host.carts(x, 1);
        Host.way(x, 0, 48, 48, 48, 23);
        DUE.is("it never comes", x.of(1, 3, 2), 5000);
        Host.text(x, "cost 9999;lost 1;");
        x.force(1);
        DUE.is("whatever the rule", x.of(1, 3, 2), 5000);
    }

    private static void lessWhatIsSpared() {
        DUE.terms("else cost, less what is SPARED.");
        GateRoad x = by(4, 5);
        x.rate(0, 0, 10, 0);
        String[] costs = {"9999", "-9999", "1", "0"};
        int[] want = {9997, -10001, -1, -2};
        for (int i = 0; i < 4; i++) {
            Host.text(x, "cost " + costs[i] + ";lost 0;");
            x.force(i + 1);
            DUE.is("cost " + costs[i], x.of(0, 0, 2), want[i]);
        }
    }

    private static void lost() {
        DUE.terms("LOST: what lost says (0, if it doesn't PASS).");
        GateRoad x = by(4, 5, 5, 48);
        x.rate(0, 0, 24, 0);
        x.rate(0, 10, 11, 1);
        Host.text(x, "cost 0;lost 7;");
        x.force(1);
        DUE.is("who passes, nothing spared", x.of(0, 0, 4), 7);
        DUE.is("who waits for ever", x.of(0, 1, 4), 0);
        DUE.is("who stays", x.of(0, 2, 4), 0);
        DUE.is("all together", x.sum(0, 1), 7);
    }

    private static void wayBySheet() {
        DUE.promise(12, "A WAY by a SHEET: its number.");
        GateRoad x = Twins.some();
        DUE.is("behind two, the least kind and sheet", x.way(0, 0), 2);
        DUE.is("the most kind", x.way(5, 1), 3);
        DUE.is("how many", x.count(2), 4);
        x.cell(0, 0, 20);
        DUE.is("a sheet that becomes otherwise leaves it", x.wayTold(2, 0), 7);
        Host.fillAs(x, 3, 0, 0, 23, 24);
        DUE.is("of bytes, by the most sheet", x.way(1, 3), 4);
        DUE.is("its choice", x.wayTold(4, 2), 24);
        Host.fillAs(x, 3, 1, 47, 48, 0);
        DUE.is("of shorts", x.way(2, 3), 5);
        DUE.is("its choice", x.wayTold(5, 1), 48);
    }

    private static void wayRefused() {
        DUE.promise(12, "BAD: KIND, SHEET; -11; BAD: its size is not as many as CARTS, a number is no CHOICE;");
        for (int kind : new int[] {-1, 6, MIN, MAX}) {
            SOME.unchanged("kind " + kind, y -> y.way(kind, 0), GateRoad.BAD);
            SOME.unchanged("kind " + kind + ", and a missing sheet", y -> y.way(kind, 3), GateRoad.BAD);
        }
        for (int s : new int[] {-1, 4, MIN, MAX}) {
            SOME.unchanged("sheet " + s, y -> y.way(0, s), GateRoad.BAD);
        }
        SOME.unchanged("a missing sheet", y -> y.way(5, 3), -11);
        FULL.unchanged("kind 6, and full", y -> y.way(6, 0), GateRoad.BAD);
        FULL.unchanged("a missing sheet, and full", y -> y.way(5, 1), -11);
        int[][] rows = {{}, {1, 2}, {1, 2, 3, 4}, {-1, 2, 3}, {1, 2, -1}, {49, 2, 3}, {1, 2, 49}, {1, MIN, 3}, {1, MAX, 3}};
        for (int[] row : rows) {
            Twins twins = new Twins(DUE, () -> {
                GateRoad y = Twins.some();
                Host.fill(y, 3, row);
                return y;
            });
            twins.unchanged("numbers " + java.util.Arrays.toString(row), y -> y.way(0, 3), GateRoad.BAD);
        }
        int[][] fullRows = {{1, 2, 3}, {0, 0, 0, 0, 0, 0, 0, 0, 0, 0, 0, 0, 0, 0, 0, 49}};
        for (int[] row : fullRows) {
            GateRoad x = Twins.full();
            Host.fill(x, 3, row);
            DUE.is("full, and " + java.util.Arrays.toString(row), x.way(0, 3), GateRoad.BAD);
        }
        GateRoad x = new GateRoad();
        x.sheet(0, 0, 1);
        DUE.is("no carts, and a number", x.way(0, 0), GateRoad.BAD);
        x.sheet(0, 0, 0);
        DUE.is("no carts, and no number", x.way(0, 0), 0);
    }

    private static void wayFull() {
        DUE.promise(12, "FULL.");
        FULL.unchanged("a ninth", y -> y.way(0, 0), GateRoad.FULL);
    }

    private static void wayTold() {
        DUE.promise(13, "Of a WAY what 0 .. the CHOICE of that CART, -1 KIND, -2 for how many CARTS.");
        for (int w = 0; w < 8; w++) {
            int way = w;
            FULL.unchanged("kind", y -> y.wayTold(way, -1), w % 6);
            FULL.unchanged("for how many", y -> y.wayTold(way, -2), 16);
            FULL.unchanged("the first", y -> y.wayTold(way, 0), 0);
            FULL.unchanged("the last", y -> y.wayTold(way, 15), 45);
        }
    }

    private static void wayToldRefused() {
        DUE.promise(13, "-5: no such WAY; -7: what.");
        for (int w : NO_WAYS) {
            SOME.unchanged("way " + w, y -> y.wayTold(w, 0), -5);
            SOME.unchanged("way " + w + ", and no such what", y -> y.wayTold(w, -3), -5);
        }
        for (int what : new int[] {-3, 3, 15, 16, MIN, MAX}) {
            SOME.unchanged("what " + what, y -> y.wayTold(1, what), -7);
        }
        FULL.unchanged("what 16", y -> y.wayTold(7, 16), -7);
        FULL.unchanged("way 8", y -> y.wayTold(8, 0), -5);
    }

    private static void set() {
        DUE.promise(14, "CHOICE of a CART by a WAY: what it was.");
        GateRoad x = Twins.full();
        DUE.is("the most, of the last cart", x.set(7, 15, 48), 45);
        DUE.is("the least", x.set(7, 15, 0), 48);
        DUE.is("the same again", x.set(7, 15, 0), 0);
        DUE.is("it is", x.wayTold(7, 15), 0);
        DUE.is("of the first", x.set(0, 0, 47), 0);
        for (int w = 0; w < 8; w++) {
            for (int c = 0; c < 16; c++) {
                DUE.is("way " + w + ", cart " + c, x.wayTold(w, c), w == 7 && c == 15 ? 0 : w == 0 && c == 0 ? 47 : 3 * c);
            }
        }
    }

    private static void setRefused() {
        DUE.promise(14, "-5: WAY, CART (that it is for); -7: CHOICE.");
        for (int w : NO_WAYS) {
            SOME.unchanged("way " + w, y -> y.set(w, 0, 0), -5);
            SOME.unchanged("way " + w + ", and no choice", y -> y.set(w, 0, 49), -5);
        }
        for (int c : NO_CARTS) {
            SOME.unchanged("cart " + c, y -> y.set(0, c, 0), -5);
            SOME.unchanged("cart " + c + ", and no choice", y -> y.set(0, c, -1), -5);
        }
        for (int choice : NO_CHOICES) {
            SOME.unchanged("choice " + choice, y -> y.set(1, 2, choice), -7);
        }
        Twins later = new Twins(DUE, EdgesOfWaysTest::someAndACart);
        later.unchanged("a cart that the way isn't for", y -> y.set(0, 3, 0), -5);
    }

    private static GateRoad someAndACart() {
        GateRoad y = Twins.some();
        y.cart(0);
        return y;
    }

    private static void of() {
        DUE.promise(15, "Of a CART by a WAY what 0 when it CAME (-1), 1 when it PASSED (-1), 2 COST, 3 what it PAID (0),"
                + " 4 LOST.");
        GateRoad x = by(1, 0, 0, 48, 23);
        x.sort(0, 70, 9, 9);
        x.cart(1);
        Host.way(x, 1, 0, 0, 48, 23, 23);
        x.rate(0, 1, 23, 0);
        x.rate(0, 23, 24, 2);
        x.toll(0, 0, 99);
        x.toll(0, 23, 5);
        int[][] want = {{0, 0, 10 + 99, 99, 0}, {0, 23, 46 + 39 + 5, 5, 23}, {-1, -1, 50, 0, 0}, {23, 23, 39 + 5, 5, 0},
            {-1, -1, 5000, 0, 0}};
        for (int c = 0; c < 5; c++) {
            for (int what = 0; what < 5; what++) {
                DUE.is("cart " + c + ", " + what, x.of(1, c, what), want[c][what]);
            }
        }
        x.rate(0, 23, 24, 1);
        DUE.is("it came", x.of(1, 3, 0), 23);
        DUE.is("but never passed", x.of(1, 3, 1), -1);
        DUE.is("it costs", x.of(1, 3, 2), 5000);
        DUE.is("it paid nothing", x.of(1, 3, 3), 0);
        DUE.is("it lost nothing", x.of(1, 3, 4), 0);
        FULL.unchanged("to ask", y -> y.of(7, 13, 0), 15 + 8);
    }

    private static void ofRefused() {
        DUE.promise(15, "-10000: WAY, CART; -10001: what.");
        for (int w : NO_WAYS) {
            SOME.unchanged("way " + w, y -> y.of(w, 0, 0), -10000);
            SOME.unchanged("way " + w + ", and no such what", y -> y.of(w, 0, 5), -10000);
        }
        for (int c : NO_CARTS) {
            SOME.unchanged("cart " + c, y -> y.of(1, c, 4), -10000);
            SOME.unchanged("cart " + c + ", and no such what", y -> y.of(1, c, -1), -10000);
        }
        for (int what : new int[] {-1, 5, MIN, MAX}) {
            SOME.unchanged("what " + what, y -> y.of(0, 0, what), -10001);
        }
        Twins later = new Twins(DUE, EdgesOfWaysTest::someAndACart);
        later.unchanged("a cart that the way isn't for", y -> y.of(1, 3, 0), -10000);
    }

    private static void line() {
        DUE.promise(16, "How many wait at a GATE behind a MINUTE.");
        GateRoad x = by(0, 0, 0, 0, 24, 24 + 23, 24 + 23, 48);
        int[] waiting = {2, 1, 0, 0};
        for (int t = 0; t < 4; t++) {
            DUE.is("gate 0 behind " + t, x.line(0, 0, t), waiting[t]);
        }
        DUE.is("gate 1 behind 0", x.line(0, 1, 0), 0);
        DUE.is("gate 1 behind 22", x.line(0, 1, 22), 0);
        DUE.is("gate 1 behind 23", x.line(0, 1, 23), 1);
        x.rate(1, 0, 24, 0);
        DUE.is("none passes: behind 0", x.line(0, 1, 0), 1);
        DUE.is("none passes: behind 23", x.line(0, 1, 23), 3);
        SOME.unchanged("to ask", y -> y.line(0, 0, 23), 0);
    }

    private static void lineRefused() {
        DUE.promise(16, "-5: none such.");
        for (int w : NO_WAYS) {
            SOME.unchanged("way " + w, y -> y.line(w, 0, 0), -5);
        }
        for (int g : NO_GATES) {
            SOME.unchanged("gate " + g, y -> y.line(0, g, 0), -5);
        }
        for (int t : NO_MINUTES) {
            SOME.unchanged("minute " + t, y -> y.line(1, 1, t), -5);
        }
    }

    private static void passes() {
        DUE.promise(17, "How many PASS (i = -1), which is the i-th (MINUTES, GATES, then as they PASS).");
        GateRoad x = by(4, 24 + 5, 5, 24 + 3, 5, 4, 23, 48, 24 + 5);
        x.rate(0, 0, 24, 2);
        x.rate(0, 4, 5, 0);
        x.rate(1, 5, 6, 2);
        // In 3 at gate 1: 2. In 5 at gate 0: 1 and 3, the last that came; at gate 1: 0, 7. In 6: 4. In 23: 5.
        passInOrder(x, 0, 2, 1, 3, 0, 7, 4, 5);
        DUE.is("behind the last", x.passes(0, 7), GateRoad.NONE);
        GateRoad y = by(0, 0, 0, 0, 0, 0, 0, 0, 0, 0, 0, 0, 0, 0, 0, 0, 0);
        DUE.is("sixteen", y.passes(0, -1), 16);
        DUE.is("the sixteenth", y.passes(0, 15), 15);
        y.rate(0, 0, 24, 0);
        DUE.is("none", y.passes(0, -1), 0);
        DUE.is("the first of none", y.passes(0, 0), GateRoad.NONE);
        SOME.unchanged("to ask", z -> z.passes(0, -1), 2);
    }

    private static void passesRefused() {
        DUE.promise(17, "-5: no such WAY; NONE.");
        for (int w : NO_WAYS) {
            SOME.unchanged("way " + w, y -> y.passes(w, -1), -5);
            SOME.unchanged("way " + w + ", and no i-th", y -> y.passes(w, -2), -5);
        }
        for (int i : new int[] {-2, 2, 16, MIN, MAX}) {
            SOME.unchanged("the " + i + "-th of two", y -> y.passes(0, i), GateRoad.NONE);
        }
        GateRoad x = by(0, 0, 0, 0, 0, 0, 0, 0, 0, 0, 0, 0, 0, 0, 0, 0, 0);
        DUE.is("the 16-th of sixteen", x.passes(0, 16), GateRoad.NONE);
    }

    private static void sum() {
        DUE.promise(18, "Of all CARTS together what 0 COST, 1 LOST, 2 what is PAID, 3 MINUTES that are waited by those that"
                + " PASS.");
        GateRoad x = by(1, 0, 0, 0, 48, 24);
        x.rate(0, 2, 24, 0);
        x.rate(1, 0, 24, 0);
        x.toll(0, 0, 99);
        x.toll(0, 1, 98);
        x.toll(1, 0, 97);
        // In 0 and 1 two pass; one waits at each gate for ever, one stays.
        DUE.is("cost", x.sum(0, 0), (10 + 99) + (2 + 9 + 98) + 5000 + 50 + 5000);
        DUE.is("lost", x.sum(0, 1), 1);
        DUE.is("paid", x.sum(0, 2), 197);
        DUE.is("waited", x.sum(0, 3), 1);
        int[] all = new int[16];
        GateRoad y = by(4, all);
        y.rate(0, 0, 24, 0);
        DUE.is("cost of sixteen that never pass", y.sum(0, 0), 80000);
        DUE.is("they lost", y.sum(0, 1), 0);
        DUE.is("they waited", y.sum(0, 3), 0);
        y.rate(0, 22, 24, 8);
        Host.text(y, "cost -9999;lost -9999;");
        y.force(1);
        DUE.is("the least cost of sixteen", y.sum(0, 0), 16 * -10001);
        DUE.is("the least that is lost", y.sum(0, 1), 16 * -9999);
        DUE.is("waited by sixteen", y.sum(0, 3), 8 * 22 + 8 * 23);
        Host.text(y, "cost 9999;lost 9999;");
        y.force(2);
        DUE.is("the most that is lost", y.sum(0, 1), 16 * 9999);
        SOME.unchanged("to ask", z -> z.sum(0, 3), 0);
    }

    private static void sumRefused() {
        DUE.promise(18, "NO: none such.");
        for (int w : NO_WAYS) {
            SOME.unchanged("way " + w, y -> y.sum(w, 0), GateRoad.NO);
        }
        for (int what : new int[] {-1, 4, MIN, MAX}) {
            SOME.unchanged("what " + what, y -> y.sum(0, what), GateRoad.NO);
        }
        DUE.is("when there is no way", new GateRoad().sum(0, 0), GateRoad.NO);
    }
}
