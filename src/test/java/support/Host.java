/** What many tests do by the same few calls. */
final class Host {
    private Host() {
    }

    /** The numbers as a row of ints in a sheet. */
    static void fill(GateRoad x, int s, int... numbers) {
        fillAs(x, s, 2, numbers);
    }

    static void fillAs(GateRoad x, int s, int sort, int... numbers) {
        x.sheet(s, sort, numbers.length);
        for (int i = 0; i < numbers.length; i++) {
            x.cell(s, i, numbers[i]);
        }
    }

    static int way(GateRoad x, int kind, int... choices) {
        fill(x, 3, choices);
        return x.way(kind, 3);
    }

    static void carts(GateRoad x, int... sorts) {
        for (int s : sorts) {
            x.cart(s);
        }
    }

    /** Feeds a text's bytes, eight a call; what the last feed answered. */
    static int feed(GateRoad x, String text) {
        int answer = 0;
        for (int i = 0; i < text.length(); i += 8) {
            long w = 0;
            int n = 0;
            for (int k = i; k < text.length() && n < 8; k++, n++) {
                w = w << 8 | text.charAt(k);
            }
            answer = x.feed(w, n);
        }
        return answer;
    }

    static int text(GateRoad x, String text) {
        feed(x, text);
        return x.text();
    }
}
