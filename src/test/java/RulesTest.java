/** Promises 9 to 11: the tape, texts, the rule. */
public final class RulesTest {
    private static final Due DUE = new Due("RulesTest");
    private static final int FINE = -1;

    public static void main(String[] args) {
        feed();
        textsThatStand();
        faults();
        opens();
        numbersOfTexts();
        amounts();
        names();
        force();
        theFirstRule();
        DUE.end();
    }

    private static void feed() {
        GateRoad x = new GateRoad();
        DUE.is("feed: n 0", x.feed(1, 0), -2);
        DUE.is("feed: n -1", x.feed(1, -1), -2);
        DUE.is("feed: n 9", x.feed(1, 9), -2);
        DUE.is("nothing fed", x.count(5), 0);
        // The highest byte first, and of the n lowest alone: "cost 1;l" and "ost 2;".
        DUE.is("feed 8", x.feed(0x636F737420313B6CL, 8), 8);
        DUE.is("feed 6 under others", x.feed(0x24246F737420323BL, 6), 14);
        DUE.is("it is a text", x.text(), 1);
        for (int i = 1; i <= 19; i++) {
            DUE.is("feed 8, " + i, x.feed(0, 8), 8L * i);
        }
        DUE.is("feed 5 to 157", x.feed(0, 5), 157);
        DUE.is("feed 4 too many", x.feed(0, 4), -4);
        DUE.is("nothing of it came", x.count(5), 157);
        DUE.is("feed up to 160", x.feed(0, 3), 160);
        DUE.is("feed 1 more", x.feed(0, 1), -4);
        DUE.is("bad ahead of full", x.feed(0, 9), -2);
        DUE.is("the tape's bytes", x.count(5), 160);
    }

    /** The place of a text's fault, or FINE. */
    private static int place(String text) {
        GateRoad x = new GateRoad();
        int answer = Host.text(x, text);
        DUE.is("the tape is empty behind: " + text, x.count(5), 0);
        DUE.is("texts behind: " + text, x.count(3), answer == 1 ? 2 : 1);
        return answer == 1 ? FINE : -100 - answer;
    }

    private static void stands(String text, int want) {
        DUE.is("text: " + text, place(text), want);
    }

    private static void textsThatStand() {
        stands("cost wait;lost wait;", FINE);
        stands("cost wait * 2 + early + late * 3 + toll ; lost wait ;", FINE);
        stands("\n cost\nminute ; lost sort ;", FINE);
        stands("cost toll;lost 0;\n ", FINE);
        stands("cost 9999;lost 0000;", FINE);
        stands("cost 5and 6;lost not 1<2;", FINE);
        stands("cost 1+2*3-4<5 and 6=7 or not(8)and-9;lost(1);", FINE);
    }

    private static void faults() {
        stands("   ", 3);
        stands("cost", 4);
        stands("cost wait", 9);
        stands("cost wait \n", 11);
        stands("cost wait;", 10);
        stands("cost wait;lost wait", 19);
        stands("cost wait;lost wait;;", 20);
        stands("cost wait;lost wait; cost", 21);
        stands("lost wait;cost wait;", 0);
        stands("wait;", 0);
        stands("costwait;lost 1;", 0);
        stands("cost wait lost 1;", 10);
        stands("cost cost;", 5);
        stands("cost waits;", 5);
        stands("cost wai;", 5);
        stands("cost waitz;", 5);
        stands("cost await;", 5);
        stands("cost Wait;", 5);
        stands("cost 1 ando 2;", 7);
        stands("cost 12345;", 5);
        stands("cost 00001;", 5);
        stands("cost 99999999999;", 5);
        stands("cost 5wait;", 6);
        stands("cost 1 2;", 7);
        stands("cost 1 $;", 7);
        stands("cost 1\t;", 6);
        stands("cost 1/2;", 6);
        stands("cost " + (char) 0 + ";", 5);
        stands("cost " + (char) 233 + ";", 5);
        stands("cost (1;", 7);
        stands("cost ();", 6);
        stands("cost 1);", 6);
        stands("cost ;", 5);
        stands("cost 1+;", 7);
        stands("cost +1;", 5);
        stands("cost 1**2;", 7);
        stands("cost 1<2<3;", 8);
        stands("cost 1=2=3;", 8);
        stands("cost 1<2=3;", 8);
        stands("cost 1<;", 7);
        stands("cost 1+not 2;", 7);
        stands("cost 1<not 2;", 7);
        stands("cost -not 2;", 6);
        stands("cost 1 and;", 10);
        stands("cost and 1;", 5);
        stands("cost 1 or or 1;", 10);
        stands("cost 1 not 2;", 7);
        stands("cost 1;lost 99999;", 12);
        stands("(".repeat(160), 0);
        stands("7".repeat(160), 0);
        stands("w".repeat(160), 0);
        stands("cost 1;lost 1" + "*1".repeat(73) + ";", FINE);
        stands("cost 1;lost 1" + "*1".repeat(73) + "*", 160);
        GateRoad x = new GateRoad();
        DUE.is("an empty tape", x.text(), -100);
        DUE.is("an empty tape is no text", x.count(3), 1);
    }

    private static void opens() {
        stands("cost not not not not not 1;lost 0;", FINE);
        stands("cost not not not not not not 1;lost 0;", 25);
        stands("cost -----1;lost 0;", FINE);
        stands("cost ------1;lost 0;", 10);
        stands("cost (((((1)))));lost 0;", FINE);
        stands("cost ((((((1))))));lost 0;", 10);
        stands("cost not -(not -1);lost 0;", FINE);
        stands("cost not -(not --1);lost 0;", 16);
        stands("cost not (not -(1));lost 0;", FINE);
        stands("cost not (not -(-(1)));lost 0;", 16);
        stands("cost (((((1-1)))));lost 0;", FINE);
        stands("cost (((((-1)))));lost 0;", 10);
        stands("cost (((((not 1)))));lost 0;", 10);
        stands("cost (1)+(1)+(1)+(1)+(1)+(1)+(1);lost 0;", FINE);
        stands("cost -1--1--1--1--1--1--1;lost -----1;", FINE);
        stands("cost not 1 and not 1 and not 1 and not 1 and not 1 and not 1;lost 0;", FINE);
        stands("cost not 1 or ((((-1))));lost 0;", FINE);
        stands("cost -(1)*((((-1))));lost 0;", FINE);
        stands("cost -((((1+(1)))));lost 0;", 12);
        // not is open till its NOT ends, which is behind the second SUM.
        stands("cost not 1<((((1))));lost 0;", FINE);
        stands("cost not 1<(((((1)))));lost 0;", 15);
        stands("cost 1;lost ((((((1;", 17);
    }

    private static void numbersOfTexts() {
        GateRoad x = new GateRoad();
        for (int t = 1; t <= 5; t++) {
            DUE.is("a fault takes no number", Host.text(x, "cost;"), -104);
            DUE.is("text " + t, Host.text(x, "cost " + t + ";lost 0;"), t);
        }
        Host.feed(x, "cost;");
        DUE.is("a seventh: full ahead of the fault", x.text(), -4);
        DUE.is("the tape stays", x.count(5), 5);
        DUE.is("texts", x.count(3), 6);
    }

    /** A cart of sort 1 that has waited a minute, passes in 11 six too late, and pays 7. */
    private static GateRoad late() {
        GateRoad x = new GateRoad();
        x.sort(20, 50, 2, 3);
        x.sort(5, 50, 2, 3);
        Host.carts(x, 1, 1);
        x.toll(0, 11, 7);
        Host.way(x, 1, 8, 8);
        return x;
    }

    private static void amount(String e, int want) {
        GateRoad x = late();
        DUE.is("text of " + e, Host.text(x, "cost " + e + ";lost 0-(" + e + ");"), 1);
        x.force(1);
        DUE.is("cost " + e, x.of(0, 1, 2), want);
        DUE.is("lost 0-(" + e + ")", x.of(0, 1, 4), -want);
    }

    private static void amounts() {
        amount("5", 5);
        amount("1+2*3", 7);
        amount("(1+2)*3", 9);
        amount("10-4-3", 3);
        amount("2-3*4", -10);
        amount("-2*3", -6);
        amount("- -5", 5);
        amount("2*-3", -6);
        amount("1<2", 1);
        amount("2<1", 0);
        amount("2<2", 0);
        amount("3=3", 1);
        amount("3=4", 0);
        amount("not 0", 1);
        amount("not 7", 0);
        amount("not 2<1", 1);
        amount("not 1+1", 0);
        amount("not not 7", 1);
        amount("2 and 3", 1);
        amount("2 and 0", 0);
        amount("0 and 2", 0);
        amount("0 or 5", 1);
        amount("5 or 0", 1);
        amount("0 or 0", 0);
        amount("1 or 0 and 0", 1);
        amount("(1 or 0) and 0", 0);
        amount("0 and 0 or 1", 1);
        amount("1+1=2", 1);
        amount("2=1+1", 1);
        amount("not 0 and 0", 0);
        amount("-1 and 1", 1);
        for (int inmost = 0; inmost < 2; inmost++) {
            GateRoad x = late();
            String e = "0 or 1 and 2=1+1*(".repeat(5) + inmost + ")))))";
            Host.text(x, "cost " + e + ";lost 0;");
            x.force(1);
            DUE.is("as many as can be in the midst of it", x.of(0, 1, 2), inmost);
        }
        amount("9998+1", 9999);
        amount("9999+1", 9999);
        amount("-9999-1", -9999);
        amount("9999*9999*43<0", 0);
        amount("9999*9999*22<0", 1);
        amount("9999*9999*22", -9999);
        amount("9999*9999*43-4172*1000-747", 0);
    }

    private static void names() {
        amount("wait", 1);
        amount("early", 0);
        amount("late", 6);
        amount("minute", 11);
        amount("sort", 1);
        amount("toll", 7);
        GateRoad x = late();
        x.wishes(1, 20);
        Host.text(x, "cost early*100+late;lost early;");
        x.force(1);
        DUE.is("early by 10 and 9", x.of(0, 0, 2), 1000);
        DUE.is("early by 9", x.of(0, 1, 2), 900);
        DUE.is("lost early", x.of(0, 1, 4), 9);
        x.wishes(1, 11);
        DUE.is("in time", x.of(0, 1, 2), 0);
    }

    private static void force() {
        GateRoad x = late();
        DUE.is("force 0", x.force(0), 0);
        DUE.is("force 1, which isn't", x.force(1), -2);
        DUE.is("force -1", x.force(-1), -2);
        Host.text(x, "cost 17;lost 18;");
        DUE.is("a text is not yet the rule", x.count(4), 0);
        DUE.is("by text 0", x.of(0, 1, 2), 2 + 18 + 7);
        DUE.is("force 1", x.force(1), 0);
        DUE.is("the rule", x.count(4), 1);
        DUE.is("by text 1", x.of(0, 1, 2), 17);
        DUE.is("lost by text 1", x.of(0, 1, 4), 18);
        DUE.is("force 2", x.force(2), -2);
        DUE.is("a refusal changes nothing", x.count(4), 1);
        DUE.is("force 0 again", x.force(0), 1);
    }

    private static void theFirstRule() {
        GateRoad x = late();
        DUE.is("cost: wait * 2 + late * 3 + toll", x.of(0, 1, 2), 2 + 18 + 7);
        DUE.is("lost: wait", x.of(0, 1, 4), 1);
        x.wishes(1, 20);
        DUE.is("cost: wait * 2 + early + toll", x.of(0, 1, 2), 2 + 9 + 7);
    }
}
