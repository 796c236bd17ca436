import java.util.List;

/** Two objects made alike: one is called, and both must then answer alike whatever they are asked. */
final class Twins {
    interface Maker {
        GateRoad made();
    }

    interface Call {
        long on(GateRoad x);
    }

    private final Due due;
    private final Maker maker;

    Twins(Due due, Maker maker) {
        this.due = due;
        this.maker = maker;
    }

    /** Something of everything, an image and what changed since, half a text on the tape; sheet 3 is missing. */
    static GateRoad some() {
        GateRoad x = new GateRoad();
        x.sort(10, 50, 2, 3);
        x.sort(8, 20, 0, 1);
        Host.carts(x, 0, 1, 0);
        x.rate(0, 5, 12, 2);
        x.rate(1, 0, 8, 0);
        x.toll(0, 9, 4);
        x.toll(1, 20, 99);
        Host.fill(x, 0, 7, 31, 48);
        Host.fillAs(x, 1, 1, 8, 8, 9);
        Host.fill(x, 2, 8, 9, 32);
        x.way(1, 0);
        x.way(4, 1);
        Host.text(x, "cost wait+1;lost 2;");
        x.force(1);
        x.image();
        x.rate(0, 4, 9, 3);
        x.toll(1, 20, 5);
        x.wishes(1, 9);
        x.set(0, 0, 8);
        x.force(0);
        Host.feed(x, "cost 5");
        return x;
    }

    /** As many sorts, carts, ways, texts and bytes of the tape as can be; sheet 0 of ints has sixteen numbers. */
    static GateRoad full() {
        GateRoad x = new GateRoad();
        for (int s = 0; s < 4; s++) {
            x.sort(5 * s, 100 * s, s, 9 - s);
        }
        int[] choices = new int[16];
        for (int c = 0; c < 16; c++) {
            x.cart(c % 4);
            choices[c] = 3 * c;
        }
        Host.fill(x, 0, choices);
        for (int w = 0; w < 8; w++) {
            x.way(w % 6, 0);
        }
        for (int t = 1; t < 6; t++) {
            Host.text(x, "cost " + t + ";lost 0;");
        }
        for (int i = 0; i < 20; i++) {
            x.feed(0x636F737420313B20L, 8);
        }
        return x;
    }

    /** The call answers so and changes nothing. */
    void unchanged(String what, Call call, long want) {
        GateRoad x = maker.made();
        due.is(what, call.on(x), want);
        List<String> got = Seen.of(x);
        List<String> kept = Seen.of(maker.made());
        due.is(what + ": as much is seen behind it", got.size(), kept.size());
        for (int i = 0; i < got.size() && i < kept.size(); i++) {
            due.holds(what + " changes " + kept.get(i) + " to " + got.get(i), got.get(i).equals(kept.get(i)));
        }
    }
}
