import java.util.ArrayList;
import java.util.List;

/** All that can be asked of an object, by fewer calls than it is good for; what changes it is asked last. */
final class Seen {
    private final GateRoad x;
    private final List<String> all = new ArrayList<>();

    private Seen(GateRoad x) {
        this.x = x;
    }

    static List<String> of(GateRoad x) {
        Seen seen = new Seen(x);
        seen.counts();
        seen.gates();
        seen.sortsAndCarts();
        seen.ways();
        seen.tape();
        seen.sheets();
        seen.image();
        return seen.all;
    }

    private long add(String what, long answer) {
        all.add(what + " = " + answer);
        return answer;
    }

    private void counts() {
        for (int what = 0; what < 6; what++) {
            add("count " + what, x.count(what));
        }
    }

    private void gates() {
        for (int g = 0; g < 2; g++) {
            for (int t = 0; t < 24; t++) {
                add("rate of " + g + " in " + t, x.gateTold(g, t, 0));
                add("toll of " + g + " in " + t, x.gateTold(g, t, 1));
            }
        }
    }

    private void sortsAndCarts() {
        for (int s = 0; s < x.count(0); s++) {
            for (int what = 0; what < 4; what++) {
                add("sort " + s + ", " + what, x.sortTold(s, what));
            }
        }
        for (int c = 0; c < x.count(1); c++) {
            add("cart " + c, x.taken(c, 6));
        }
    }

    private void ways() {
        int n = x.count(2);
        for (int w = 0; w < n; w++) {
            add("kind of way " + w, x.wayTold(w, -1));
            long carts = add("carts of way " + w, x.wayTold(w, -2));
            for (int c = 0; c < carts; c++) {
                add("way " + w + ", cart " + c, x.wayTold(w, c));
            }
            add("cost of way " + w, x.sum(w, 0));
        }
    }

    /** The tape's bytes come to light by a text that they begin. */
    private void tape() {
        add("feed", x.feed(0x2B313B6CL, 4));
        add("feed", x.feed(0x6F737420313BL, 6));
        int t = (int) add("text", x.text());
        add("force", x.force(t));
        add("cost of way 0 by it", x.sum(0, 0));
        add("lost of way 0 by it", x.sum(0, 1));
    }

    private void sheets() {
        for (int s = 0; s < 4; s++) {
            for (int sort = 0; sort < 3; sort++) {
                add("sheet " + s + " of sort " + sort, x.rates(s, sort, 0, 0));
            }
            add("size of sheet " + s, sizeOf(s));
            int w = (int) add("way by sheet " + s, x.way(0, s));
            for (int c = 0; w >= 0 && c < x.count(1); c++) {
                add("number " + c + " of sheet " + s, x.wayTold(w, c));
            }
        }
    }

    private int sizeOf(int s) {
        int least = -1;
        int most = 40;
        while (least < most) {
            int k = (least + most + 1) / 2;
            if (x.copy(s, k, s, k, 0) == 0) {
                least = k;
            } else {
                most = k - 1;
            }
        }
        return least;
    }

    private void image() {
        add("back", x.back());
        add("the rule of the image", x.count(4));
        for (int t = 0; t < 24; t += 4) {
            add("rate of the image in " + t, x.gateTold(0, t, 0));
            add("toll of the image in " + t, x.gateTold(1, t, 1));
        }
        for (int s = 0; s < x.count(0); s++) {
            add("wished of the image, " + s, x.sortTold(s, 0));
        }
        int n = x.count(2);
        for (int w = 0; w < n; w++) {
            add("way " + w + " of the image, cart 0", x.wayTold(w, 0));
            add("cost of way " + w + " of the image", x.sum(w, 0));
        }
    }
}
