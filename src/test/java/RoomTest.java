import java.lang.management.ManagementFactory;

/** What 512 calls of one object take of the room they all live in: bytes that this thread has asked for. */
public final class RoomTest {
    private static final Due DUE = new Due("RoomTest");
    private static final int CALLS = 512;
    // A hundredth of the room's 7.3 million elements, at four bytes each.
    private static final long MOST = 4L * 73_000;

    public static void main(String[] args) {
        com.sun.management.ThreadMXBean bean = (com.sun.management.ThreadMXBean) ManagementFactory.getThreadMXBean();
        long id = Thread.currentThread().getId();
        for (int what = -1; what < 36; what++) {
            run(what);
            long before = bean.getThreadAllocatedBytes(id);
            long spent = run(what);
            long took = bean.getThreadAllocatedBytes(id) - before;
            DUE.holds("calls of " + what + " took " + took + " bytes (" + spent + ")", took < MOST);
        }
        DUE.end();
    }

    private static GateRoad full() {
        GateRoad x = new GateRoad();
        for (int s = 0; s < 4; s++) {
            x.sort(6 * s, 100, s, s);
        }
        for (int c = 0; c < 16; c++) {
            x.cart(c % 4);
        }
        x.sheet(0, 2, 16);
        x.sheet(1, 2, 40);
        for (int w = 0; w < 7; w++) {
            x.way(w % 6, 0);
        }
        return x;
    }

    private static long run(int what) {
        GateRoad x = full();
        long sum = 0;
        for (int i = 0; i < CALLS; i++) {
            sum += call(x, what, i);
        }
        return sum;
    }

    private static long call(GateRoad x, int what, int i) {
        switch (what) {
            case 0: return x.rate(0, 0, 24, i % 10);
            case 1: return x.toll(0, 3, i % 10);
            case 2: return x.sort(0, 0, 0, 0);
            case 3: return x.cart(0);
            case 4: return x.wishes(0, i % 24);
            case 5: return x.gateTold(0, 0, 0);
            case 6: return x.sortTold(0, 0);
            case 7: return x.feed(0x2828282828282828L, 8);
            case 8: return i % 20 < 19 ? x.feed(0x636F737420312B31L, 8) : x.text();
            case 9: return x.force(0);
            case 10: return x.way(0, 0);
            case 11: return x.wayTold(0, 0);
            case 12: return x.set(0, i % 16, i % 49);
            case 13: return x.of(0, 0, 2);
            case 14: return x.line(0, 0, 0);
            case 15: return x.passes(0, 0);
            case 16: return x.sum(0, 0);
            case 17: return x.judge(0, 0);
            case 18: return i % 2 == 0 ? x.rest(0, 8) : x.set(0, i % 16, 0);
            case 19: return x.other(0, 0, 3);
            case 20: return x.swap(0, 0, 1);
            case 21: return x.beside(0, 0, 0, 0);
            case 22: return x.sticks(0, 0, 0, 3, 0);
            case 23: return x.shift(0, 3);
            case 24: return x.finest(1, 0, 3, 1);
            case 25: return x.split(0, 0, 24, 0);
            case 26: return x.count(0);
            case 27: return x.image();
            case 28: return i == 0 ? x.image() : x.back();
            case 29: return x.sheet(2, 2, 40);
            case 30: return x.cell(1, 0, 0);
            case 31: return x.copy(1, 0, 1, 1, 39);
            case 32: return x.rates(1, 2, 0, 10);
            case 33: return x.taken(16, 0);
            default: return x.count(what);
        }
    }
}
