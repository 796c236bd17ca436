/** Promises 9 to 11, and what "Terms" say of the tape, texts and the rule: each sentence at its bounds. */
public final class EdgesOfRulesTest {
    private static final Due DUE = new Due("EdgesOfRulesTest");
    private static final Twins SOME = new Twins(DUE, Twins::some);
    private static final Twins FULL = new Twins(DUE, Twins::full);
    private static final int MIN = Integer.MIN_VALUE, MAX = Integer.MAX_VALUE;
    private static final int FINE = -1;
    // 2 to the 31st, which wraps to the least int; one less, the most; 2 to the 32nd, which wraps to 0.
    private static final String LEAST = "4096*8192*64", MOST = "(4096*8192*63+4096*8191+4095)", NOUGHT = "4096*8192*128";

    public static void main(String[] args) {
        tapeBytes();
        tokensAsLongAsCanBe();
        words();
        numbers();
        signs();
        blanks();
        text();
        ors();
        ands();
        nots();
        sums();
        terms();
        ones();
        names();
        wrapping();
        truths();
        firstToken();
        endsTooEarly();
        byteThatBeginsNone();
        unknownWord();
        numberTooLong();
        sixthOpen();
        howLongOpen();
        textNumbers();
        firstRule();
        waited();
        earlyLate();
        minuteSortToll();
        bounds();
        feedBytes();
        feedRefused();
        feedFull();
        tapeIsEmptyThen();
        textsNumber();
        faultPlace();
        textFull();
        force();
        forceBad();
        DUE.end();
    }

    /** The place of a text's fault, or FINE. */
    private static int place(String text) {
        GateRoad x = new GateRoad();
        int answer = Host.text(x, text);
        return answer == 1 ? FINE : -100 - answer;
    }

    private static void stands(String text) {
        DUE.is("fault of: " + text, place(text), FINE);
    }

    private static void fault(String text, int want) {
        DUE.is("fault of: " + text, place(text), want);
    }

    /** One cart of sort 1 that comes in 10, passes in 11, wishes 5 and pays 7. */
    private static GateRoad late() {
        GateRoad x = new GateRoad();
        x.sort(20, 50, 2, 3);
        x.sort(5, 60, 2, 3);
        x.cart(1);
        x.toll(0, 11, 7);
        x.rate(0, 10, 11, 0);
        Host.way(x, 1, 8);
        return x;
    }

    private static void says(String e, int want) {
        GateRoad x = late();
        Host.text(x, "cost " + e + ";lost " + (e.length() > 65 ? "1" : e) + ";");
        DUE.is("force of " + e, x.force(1), 0);
        DUE.is("cost " + e, x.of(0, 0, 2), want);
        DUE.is("lost " + e, x.of(0, 0, 4), e.length() > 65 ? 1 : want);
    }

    private static void tapeBytes() {
        DUE.terms("A TEXT is read from THE TAPE (160 bytes at most).");
        String most = "cost 1;" + "lost 1" + " ".repeat(146) + ";";
        DUE.is("its length", most.length(), 160);
        GateRoad x = new GateRoad();
        DUE.is("all of it is fed", Host.feed(x, most), 160);
        DUE.is("a byte more", x.feed(' ', 1), GateRoad.FULL);
        DUE.is("it is read to its last byte", x.text(), 1);
        DUE.is("a byte less", Host.feed(x, most.substring(1)), 159);
        DUE.is("and one", x.feed(';', 1), 160);
        DUE.is("and no more", x.feed(';', 1), GateRoad.FULL);
    }

    private static void tokensAsLongAsCanBe() {
        DUE.terms("TOKENS, each as long as can be");
        stands("cost1;lost1;");
        stands("cost 1and 2;lost 3or 4;");
        stands("cost not1and2;lost wait+1;");
        stands("cost 1=1or wait<2;lost(wait);");
        fault("costwait;lost 1;", 0);
        fault("cost notwait;lost 1;", 5);
        fault("cost 1 andwait;lost 1;", 7);
        fault("cost waitor 1;lost 1;", 5);
        fault("cost waitwait;lost 1;", 5);
        fault("cost 1234 5;lost 1;", 10);
        fault("cost 12345;lost 1;", 5);
    }

    private static void words() {
        DUE.terms("WORDS (as many letters a .. z as stand there)");
        stands("cost wait;lost 1;");
        fault("cost a;", 5);
        fault("cost z;", 5);
        fault("cost await;", 5);
        fault("cost waitz;", 5);
        fault("cost `;", 5);
        fault("cost {;", 5);
        fault("cost A;", 5);
        fault("cost Z;", 5);
        fault("cost wait`;", 9);
        fault("cost wait{;", 9);
        fault("cost waitZ;", 9);
        fault("cost waitA;", 9);
        fault("cost wait_;", 9);
        fault("cost wait1;", 9);
        fault("cost " + (char) ('w' + 128) + "ait;", 5);
        fault("z".repeat(160), 0);
    }

    private static void numbers() {
        DUE.terms("NUMBERS (as many digits as stand there; more than 4 are too long)");
        says("0", 0);
        says("9", 9);
        says("90", 90);
        says("109", 109);
        says("9999", 9999);
        says("0000", 0);
        says("0090", 90);
        fault("cost 10000;", 5);
        fault("cost 00000;", 5);
        fault("cost 00009;", 5);
        fault("cost 4294967297;", 5);
        fault("cost 1/;", 6);
        fault("cost 1:;", 6);
        fault("cost /;", 5);
        fault("cost :;", 5);
        fault("cost " + (char) ('0' + 128) + ";", 5);
        fault("9".repeat(160), 0);
    }

    private static void signs() {
        DUE.terms("SIGNS ( ) ; + - * < = ;");
        says("(1)+(2)-(3)*(4)", -9);
        says("(1<2)+(3=3)", 2);
        fault("cost 1++2;", 7);
        fault("cost 1=<2;", 7);
        fault("cost 1==2;", 7);
        for (int b : new int[] {'\'', ',', '.', '/', ':', '>', '?', '!', '&', '|', '%', '[', ']', '^', '~'}) {
            fault("cost 1" + (char) b + "2;", 6);
        }
        for (int b : new int[] {'(', ')', ';', '+', '-', '*', '<', '='}) {
            fault("cost 1" + (char) (b + 128) + "2;", 6);
        }
    }

    private static void blanks() {
        DUE.terms("blanks (32, 10) may stand between.");
        stands("cost 1 ; lost 1 ;");
        stands("cost\n1\n;\nlost\n1\n;");
        stands("cost \n  \n\n 1;lost 1;");
        says("1 - \n - 2", 3);
        fault("cost 1 2;", 7);
        fault("cost wa it;", 5);
        fault("cost wa\nit;", 5);
        fault("co st 1;", 0);
        for (int b : new int[] {0, 9, 11, 13, 31, 33, 32 + 128, 10 + 128}) {
            fault("cost 1" + (char) b + ";lost 1;", 6);
        }
    }

    private static void text() {
        DUE.terms("TEXT: cost E ; lost E ;");
        stands("cost 1;lost 1;");
        stands("cost 1;lost 1;\n ");
        stands(" cost 1;lost 1;");
        fault("lost 1;cost 1;", 0);
        fault("1;lost 1;", 0);
        fault("; cost 1;lost 1;", 0);
        fault("cost;lost 1;", 4);
        fault("cost cost 1;lost 1;", 5);
        fault("cost 1 lost 1;", 7);
        fault("cost 1;;lost 1;", 7);
        fault("cost 1;cost 1;", 7);
        fault("cost 1;1;", 7);
        fault("cost 1;lost;", 11);
        fault("cost 1;lost 1 1", 14);
        fault("cost 1;lost 1;1", 14);
        fault("cost 1;lost 1;;", 14);
        fault("cost 1;lost 1; cost 1;lost 1;", 15);
    }

    private static void ors() {
        DUE.terms("E: AND { or AND }.");
        says("5", 5);
        says("0 or 0", 0);
        says("0 or 3", 1);
        says("0 or 0 or 0 or 3", 1);
        says("1 or 1 and 0", 1);
        says("0 and 1 or 1", 1);
        fault("cost or 1;", 5);
        fault("cost 1 or;", 9);
        fault("cost 1 or or 1;", 10);
        fault("cost 1 or and 1;", 10);
    }

    private static void ands() {
        DUE.terms("AND: NOT { and NOT }.");
        says("1 and 1", 1);
        says("1 and 0", 0);
        says("1 and 1 and 1 and 1", 1);
        says("1 and 1 and 1 and 0", 0);
        says("not 0 and 0", 0);
        says("0 and not 0", 0);
        says("1 and not 0", 1);
        says("1<2 and 2<3", 1);
        fault("cost and 1;", 5);
        fault("cost 1 and;", 10);
        fault("cost 1 and and 1;", 11);
        fault("cost 1 not 1;", 7);
    }

    private static void nots() {
        DUE.terms("NOT: not NOT, or SUM, perhaps < or = and a SUM.");
        says("not 5", 0);
        says("not not 5", 1);
        says("not 1<0", 1);
        says("not 0=1", 1);
        says("not 1+1", 0);
        says("1+1<1+2", 1);
        says("1+2=2+1", 1);
        says("(0<3)<2", 1);
        fault("cost 1<2<3;", 8);
        fault("cost 1<2=3;", 8);
        fault("cost 1=2<3;", 8);
        fault("cost 1=2=3;", 8);
        fault("cost 1<;", 7);
        fault("cost 1=;", 7);
        fault("cost <1;", 5);
        fault("cost =1;", 5);
        fault("cost not;", 8);
        fault("cost 1<not 2;", 7);
        fault("cost 1+not 2;", 7);
        fault("cost 1*not 2;", 7);
    }

    private static void sums() {
        DUE.terms("SUM: TERM { + or - TERM }.");
        says("10-4-3", 3);
        says("10-4+3", 9);
        says("1+2+3+4", 10);
        says("2+3*4", 14);
        says("2-3*4", -10);
        fault("cost +1;", 5);
        fault("cost 1+;", 7);
        fault("cost 1-;", 7);
        fault("cost 1-+1;", 7);
    }

    private static void terms() {
        DUE.terms("TERM: ONE { * ONE }.");
        says("2*3", 6);
        says("2*3*4*5", 120);
        says("2*3+4*5", 26);
        says("-2*-3", 6);
        fault("cost *2;", 5);
        fault("cost 2*;", 7);
        fault("cost 2**2;", 7);
        fault("cost 2(3);", 6);
    }

    private static void ones() {
        DUE.terms("ONE: a NUMBER, a NAME, - ONE, ( E ).");
        says("7", 7);
        says("late", 6);
        says("-7", -7);
        says("--7", 7);
        says("-(2+3)", -5);
        says("-2+3", 1);
        says("(0 or 7)", 1);
        says("(not 7)", 0);
        says("((3))*(1<2)", 3);
        fault("cost ();", 6);
        fault("cost (1;", 7);
        fault("cost 1);", 6);
        fault("cost (1));", 8);
        fault("cost -;", 6);
        fault("cost -not 1;", 6);
        fault("cost ;", 5);
    }

    private static void names() {
        DUE.terms("NAMES: wait early late minute sort toll.");
        says("wait", 1);
        says("early", 0);
        says("late", 6);
        says("minute", 11);
        says("sort", 1);
        says("toll", 7);
        for (String word : new String[] {"cost", "lost", "and", "or", "rate", "cart", "way", "waits", "wai"}) {
            fault("cost " + word + ";", 5);
        }
    }

    private static void wrapping() {
        DUE.terms("An E is an int (32 bits, wrapping)");
        says(MOST, 9999);
        says("0<" + MOST, 1);
        says(MOST + "+1<0", 1);
        says(MOST + "+1=" + LEAST, 1);
        says(LEAST, -9999);
        says(LEAST + "<0", 1);
        says("0<" + LEAST + "-1", 1);
        says(LEAST + "-1=" + MOST, 1);
        says("-(" + LEAST + ")<0", 1);
        says(NOUGHT, 0);
        says(NOUGHT + "+7", 7);
        // 99980001 times 43 is 4299140043, which is 4172747 above 2 to the 32nd.
        says("9999*9999*43-4172*1000-747", 0);
        // Their difference would be less than nothing, did it not wrap.
        says(LEAST + "<" + MOST, 1);
        says(MOST + "<" + LEAST, 0);
    }

    private static void truths() {
        DUE.terms("of or, and, not, <, = 1 or 0 (what is not 0 is true).");
        says("0 or 0", 0);
        says("7 or 0", 1);
        says("0 or -7", 1);
        says("5 or 6", 1);
        says("0 and 7", 0);
        says("7 and 0", 0);
        says("1 and 2", 1);
        says("-1 and 2", 1);
        says("not 0", 1);
        says("not 1", 0);
        says("not -1", 0);
        says("not 2", 0);
        says("5<6", 1);
        says("6<6", 0);
        says("7<6", 0);
        says("-1<0", 1);
        says("6=6", 1);
        says("6=7", 0);
        says("6=-6", 0);
        says(LEAST + " and 1", 1);
        says(NOUGHT + " or 0", 0);
        says("not (" + NOUGHT + ")", 1);
    }

    private static void firstToken() {
        DUE.terms("FAULT: the place of the first byte of the first TOKEN that can't stand there");
        fault("cost 1 99;", 7);
        fault("cost 1 wait;", 7);
        fault("cost 1    \n wait;", 12);
        fault("cost 1 2 3 4;", 7);
        fault("cost ) ( ;", 5);
        fault("cost 1 2 $;", 7);
        fault("cost 1 2 99999;", 7);
        fault("cost 1 2 waits;", 7);
        fault("wait", 0);
        fault("  wait", 2);
    }

    private static void endsTooEarly() {
        DUE.terms("(the text's size, if it ends too early)");
        fault("", 0);
        fault(" ", 1);
        fault("cost", 4);
        fault("cost ", 5);
        fault("cost 1", 6);
        fault("cost (1", 7);
        fault("cost not", 8);
        fault("cost 1;", 7);
        fault("cost 1;lost", 11);
        fault("cost 1;lost 1", 13);
        fault("cost 1;lost 1 \n ", 16);
        fault("cost 1" + " ".repeat(154), 160);
        fault(" ".repeat(160), 160);
        fault("cost 1;lost 1" + "+1".repeat(73) + "+", 160);
        stands("cost 1;lost 1" + "+1".repeat(73) + ";");
    }

    private static void byteThatBeginsNone() {
        DUE.terms("also of a byte that begins none");
        for (int b : new int[] {0, 1, 9, 13, 31, '!', '"', '#', '$', '@', 'A', '_', '~', 127, 128, 200, 255}) {
            fault((char) b + "cost 1;", 0);
            fault("cost " + (char) b + ";", 5);
            fault("cost 1;lost 1;" + (char) b, 14);
        }
        fault("cost $ ;;", 5);
        fault("cost ; $", 5);
        fault("cost wa$it;", 5);
        fault("cost wait$it;", 9);
    }

    private static void unknownWord() {
        DUE.terms("of a WORD that is neither KEY nor NAME");
        fault("x", 0);
        fault("cos 1;", 0);
        fault("costs 1;", 0);
        fault("cost 1;los 1;", 7);
        fault("cost 1;losts 1;", 7);
        fault("cost min;", 5);
        fault("cost minutes;", 5);
        fault("cost 1 an 1;", 7);
        fault("cost 1 o 1;", 7);
        fault("cost 1 xor 1;", 7);
        fault("cost no 1;", 5);
        fault("cost 1;lost 1;x", 14);
    }

    private static void numberTooLong() {
        DUE.terms("a NUMBER that is too long");
        fault("cost 1+12345;lost 1;", 7);
        fault("cost 1+1234;lost 12345;", 17);
        fault("cost 123456789;", 5);
        fault("cost 1 12345;", 7);
        fault("12345", 0);
        fault("cost 1;lost 1;12345", 14);
        stands("cost 1+1234;lost 1234;");
    }

    private static void sixthOpen() {
        DUE.terms("a ( , a not, a - ahead of a ONE while 5 of these are open");
        stands("cost (((((1)))));lost 1;");
        fault("cost ((((((1))))));lost 1;", 10);
        stands("cost not not not not not 1;lost 1;");
        fault("cost not not not not not not 1;lost 1;", 25);
        stands("cost -----1;lost 1;");
        fault("cost ------1;lost 1;", 10);
        stands("cost not (-(not 1));lost 1;");
        fault("cost not (-(not -1));lost 1;", 16);
        fault("cost not (-(not (1)));lost 1;", 16);
        fault("cost not (-(not not 1));lost 1;", 16);
        stands("cost (not (not (1)));lost 1;");
        fault("cost (not (not (not 1)));lost 1;", 16);
        fault("cost 1;lost ------1;", 17);
        fault("(".repeat(160), 0);
        fault("cost " + "(".repeat(155), 10);
        fault("cost " + "-".repeat(155), 10);
    }

    private static void howLongOpen() {
        DUE.terms("(a ( till its ) , not and - till what they belong to ends)");
        // Behind its ) a ( is open no more; what stands behind it may open as many again.
        stands("cost (((((1)))))+(((((1)))));lost (((((1)))));");
        stands("cost (1)+(1)+(1)+(1)+(1)+(1)+(1);lost 1;");
        stands("cost ((1)+((((1)))));lost 1;");
        fault("cost ((1)+(((((1))))));lost 1;", 14);
        // A - ahead of a ONE ends with that ONE; between two TERMS a - opens nothing.
        stands("cost -----1+-----1;lost 1;");
        stands("cost (((((1-1)))));lost 1;");
        stands("cost ((((-1+(1)))));lost 1;");
        stands("cost ((((-1*(1)))));lost 1;");
        fault("cost (((((1--1)))));lost 1;", 12);
        fault("cost -(((((1)))));lost 1;", 10);
        stands("cost -((((1))))+(((((1)))));lost 1;");
        // A not ends with its NOT: behind < or = it is open still, behind and no more.
        stands("cost not not not not not 1 and not 1;lost 1;");
        stands("cost not 1 and (((((1)))));lost 1;");
        stands("cost not 1 or (((((1)))));lost 1;");
        stands("cost not 1<((((1))));lost 1;");
        fault("cost not 1<(((((1)))));lost 1;", 15);
        fault("cost not 1=-----1;lost 1;", 15);
        fault("cost not 1+(((((1)))));lost 1;", 15);
        fault("cost not 1*(((((1)))));lost 1;", 15);
    }

    private static void textNumbers() {
        DUE.terms("TEXTS are numbered from 0 on, 6 at most; TEXT 0, at first, and THE RULE");
        GateRoad x = new GateRoad();
        DUE.is("texts at first", x.count(3), 1);
        DUE.is("the rule at first", x.count(4), 0);
        DUE.is("text 0 is one", x.force(0), 0);
        for (int t = 1; t < 6; t++) {
            DUE.is("no text " + t + " yet", x.force(t), GateRoad.BAD);
            DUE.is("text " + t, Host.text(x, "cost " + t + ";lost 1;"), t);
            DUE.is("how many", x.count(3), t + 1);
        }
        DUE.is("one more", Host.text(x, "cost 6;lost 1;"), GateRoad.FULL);
        DUE.is("still six", x.count(3), 6);
        DUE.is("no text 6", x.force(6), GateRoad.BAD);
        DUE.is("the rule is text 0 still", x.count(4), 0);
    }

    private static void firstRule() {
        DUE.terms("cost wait * 2 + early + late * 3 + toll ; lost wait ;");
        GateRoad x = late();
        DUE.is("waited 1, late by 6, paid 7", x.of(0, 0, 2), 2 + 18 + 7);
        DUE.is("lost 1", x.of(0, 0, 4), 1);
        x.wishes(1, 15);
        DUE.is("waited 1, early by 4, paid 7", x.of(0, 0, 2), 2 + 4 + 7);
        x.wishes(1, 11);
        x.toll(0, 11, 0);
        DUE.is("waited 1", x.of(0, 0, 2), 2);
        x.rate(0, 10, 11, 1);
        DUE.is("early by 1", x.of(0, 0, 2), 1);
        DUE.is("lost nothing", x.of(0, 0, 4), 0);
        Host.text(x, "cost 1;lost 1;");
        x.force(1);
        x.force(0);
        DUE.is("text 0 again", x.of(0, 0, 2), 1);
    }

    /** A cart that sets out in 0 for gate 0, on a road of none; both costs are what is asked of. */
    private static GateRoad alone(String e) {
        GateRoad x = new GateRoad();
        x.sort(0, 999, 0, 0);
        x.cart(0);
        Host.way(x, 0, 0);
        Host.text(x, "cost " + e + ";lost " + e + ";");
        x.force(1);
        return x;
    }

    private static void waited() {
        DUE.terms("Of a CART that PASSED: wait: MINUTES from when it CAME till it PASSED");
        GateRoad x = alone("wait");
        DUE.is("at once", x.of(0, 0, 2), 0);
        x.rate(0, 0, 1, 0);
        DUE.is("a minute", x.of(0, 0, 2), 1);
        x.rate(0, 0, 23, 0);
        DUE.is("as long as can be", x.of(0, 0, 2), 23);
        DUE.is("lost as much", x.of(0, 0, 4), 23);
        x.rate(0, 0, 24, 0);
        DUE.is("it never passes", x.of(0, 0, 4), 0);
    }

    private static void earlyLate() {
        DUE.terms("early, late: by how many MINUTES it PASSED ahead of, behind its WISHED MINUTE (0 at least)");
        GateRoad x = alone("early*100+late");
        DUE.is("in time, at the first", x.of(0, 0, 2), 0);
        x.wishes(0, 1);
        DUE.is("early by one", x.of(0, 0, 2), 100);
        x.wishes(0, 23);
        DUE.is("as early as can be", x.of(0, 0, 2), 2300);
        x.set(0, 0, 23);
        DUE.is("in time, at the last", x.of(0, 0, 2), 0);
        x.wishes(0, 22);
        DUE.is("late by one", x.of(0, 0, 2), 1);
        x.wishes(0, 0);
        DUE.is("as late as can be", x.of(0, 0, 2), 23);
        x.set(0, 0, 0);
        x.rate(0, 0, 5, 0);
        DUE.is("by when it passed, not when it came", x.of(0, 0, 2), 5);
    }

    private static void minuteSortToll() {
        DUE.terms("minute: in which it PASSED; sort; toll: what it PAID.");
        GateRoad x = alone("minute*100+sort*10");
        DUE.is("in 0, of sort 0", x.of(0, 0, 2), 0);
        x.rate(0, 0, 23, 0);
        DUE.is("in 23", x.of(0, 0, 2), 2300);
        GateRoad y = new GateRoad();
        for (int s = 0; s < 4; s++) {
            y.sort(0, 999, 0, 0);
        }
        y.cart(3);
        y.toll(0, 4, 99);
        y.rate(0, 0, 4, 0);
        for (int kind = 0; kind < 6; kind++) {
            Host.way(y, kind, 0);
        }
        Host.text(y, "cost minute*1000+sort*100+toll;lost toll;");
        y.force(1);
        int[] paid = {0, 99, 0, 0, 0, 49};
        for (int kind = 0; kind < 6; kind++) {
            DUE.is("in 4, of sort 3, kind " + kind, y.of(kind, 0, 2), 4300 + paid[kind]);
            DUE.is("lost, kind " + kind, y.of(kind, 0, 4), paid[kind]);
        }
    }

    private static void bounds() {
        DUE.terms("(What cost, lost come to: each -9999 .. 9999, else the bound.)");
        says("9998", 9998);
        says("9999", 9999);
        says("9999+1", 9999);
        says(MOST, 9999);
        says("-9998", -9998);
        says("-9999", -9999);
        says("-9999-1", -9999);
        says(LEAST, -9999);
        // Only what they come to is bound, not what stands on the way to it.
        says("9999*9999-9999*9998", 9999);
        says("9999+9999-9999-9000", 999);
    }

    private static void feedBytes() {
        DUE.promise(9, "The n lowest bytes of w, the highest first, come behind THE TAPE's: how many it has.");
        GateRoad x = late();
        // "$$cost 4" without its first two, "2;lost 4", and "3;" below others: cost 42; lost 43;
        DUE.is("six bytes", x.feed(0x2424636F73742034L, 6), 6);
        DUE.is("eight bytes", x.feed(0x323B6C6F73742034L, 8), 14);
        DUE.is("a byte below a minus", x.feed(0xFFFFFFFFFFFFFF33L, 1), 15);
        DUE.is("a byte below others", x.feed(0x3333333333333B3BL, 1), 16);
        DUE.is("it counts them", x.count(5), 16);
        DUE.is("they are a text", x.text(), 1);
        x.force(1);
        DUE.is("its cost", x.of(0, 0, 2), 42);
        DUE.is("what is lost", x.of(0, 0, 4), 43);
        // The highest bit of a byte is not lost: neither 225 nor 128 begins a token.
        DUE.is("a byte above 127", x.feed(0xE1, 1), 1);
        DUE.is("it begins none", x.text(), -100);
        DUE.is("a long of the least", x.feed(Long.MIN_VALUE, 8), 8);
        DUE.is("128 begins none", x.text(), -100);
        DUE.is("blanks by the highest bytes", x.feed(0x2020202020202080L, 8), 8);
        DUE.is("128 is the last", x.text(), -107);
    }

    private static void feedRefused() {
        DUE.promise(9, "BAD: n not 1 .. 8;");
        for (int n : new int[] {0, -1, 9, MIN, MAX}) {
            SOME.unchanged("n " + n, y -> y.feed(0x2020202020202020L, n), GateRoad.BAD);
            FULL.unchanged("n " + n + " and no room", y -> y.feed(0x2020202020202020L, n), GateRoad.BAD);
        }
        GateRoad x = new GateRoad();
        DUE.is("the least n", x.feed(' ', 1), 1);
        DUE.is("the most n", x.feed(' ', 8), 9);
    }

    private static void feedFull() {
        DUE.promise(9, "FULL.");
        for (int n = 1; n <= 8; n++) {
            int bytes = n;
            FULL.unchanged("n " + n, y -> y.feed(0x2020202020202020L, bytes), GateRoad.FULL);
        }
        for (int n = 1; n <= 8; n++) {
            GateRoad x = new GateRoad();
            Host.feed(x, " ".repeat(160 - n));
            DUE.is("no room for one of them", n == 8 ? GateRoad.FULL : x.feed(' ', n + 1), GateRoad.FULL);
            DUE.is("none of them came", x.count(5), 160 - n);
            DUE.is("room for all", x.feed(' ', n), 160);
        }
    }

    private static void tapeIsEmptyThen() {
        DUE.promise(10, "THE TAPE, which is empty then (by a FAULT, too), is a TEXT");
        GateRoad x = new GateRoad();
        Host.text(x, "cost 1;lost 2;");
        DUE.is("behind a text", x.count(5), 0);
        DUE.is("a text of none", x.text(), -100);
        Host.text(x, "cost 1;lost 2");
        DUE.is("behind a fault", x.count(5), 0);
        Host.text(x, "(".repeat(160));
        DUE.is("behind a fault of a full tape", x.count(5), 0);
        DUE.is("nothing is left of it", Host.text(x, "cost 3;lost 4;"), 2);
        DUE.is("there is room for as much again", Host.feed(x, " ".repeat(160)), 160);
    }

    private static void textsNumber() {
        DUE.promise(10, "its number");
        GateRoad x = new GateRoad();
        DUE.is("the first", Host.text(x, "cost 1;lost 2;"), 1);
        DUE.is("a fault has none", Host.text(x, "cost 1;lost 2;;"), -114);
        DUE.is("the second", Host.text(x, "cost 1;lost 2;"), 2);
    }

    private static void faultPlace() {
        DUE.promise(10, "-100 less the place of its FAULT.");
        GateRoad x = new GateRoad();
        DUE.is("the first place, of an empty tape", x.text(), -100);
        DUE.is("the first place", Host.text(x, ";"), -100);
        DUE.is("the second", Host.text(x, " ;"), -101);
        DUE.is("the last", Host.text(x, " ".repeat(159) + ";"), -259);
        DUE.is("behind the last", Host.text(x, " ".repeat(160)), -260);
        DUE.is("no text of these", x.count(3), 1);
    }

    private static void textFull() {
        DUE.promise(10, "FULL (ahead of the FAULT; then THE TAPE stays).");
        FULL.unchanged("a faulty tape", y -> y.text(), GateRoad.FULL);
        GateRoad x = new GateRoad();
        for (int t = 1; t < 6; t++) {
            Host.text(x, "cost 1;lost 2;");
        }
        DUE.is("an empty tape", x.text(), GateRoad.FULL);
        Host.feed(x, "cost 1;lost 2;");
        DUE.is("a tape without fault", x.text(), GateRoad.FULL);
        DUE.is("it stays", x.count(5), 14);
        DUE.is("and more comes behind it", x.feed(';', 1), 15);
    }

    private static void force() {
        DUE.promise(11, "A TEXT is THE RULE: which was.");
        GateRoad x = late();
        for (int t = 1; t < 6; t++) {
            Host.text(x, "cost " + t + "0;lost " + t + ";");
        }
        DUE.is("the last", x.force(5), 0);
        DUE.is("it is", x.count(4), 5);
        DUE.is("cost by it", x.of(0, 0, 2), 50);
        DUE.is("lost by it", x.of(0, 0, 4), 5);
        DUE.is("the same again", x.force(5), 5);
        DUE.is("the first", x.force(0), 5);
        DUE.is("cost by that", x.of(0, 0, 2), 27);
        DUE.is("one between", x.force(3), 0);
        DUE.is("cost by the third", x.of(0, 0, 2), 30);
    }

    private static void forceBad() {
        DUE.promise(11, "BAD.");
        for (int t : new int[] {-1, 2, 6, MIN, MAX}) {
            SOME.unchanged("text " + t, y -> y.force(t), GateRoad.BAD);
        }
        FULL.unchanged("text 6", y -> y.force(6), GateRoad.BAD);
        DUE.is("a new object's text 1", new GateRoad().force(1), GateRoad.BAD);
    }
}
