import java.lang.management.ManagementFactory;

/** All calls of a run live in one room: a call makes no object, and a new StarPlates makes few. */
public final class RoomTest {
    private static final int ROUNDS = 200;

    private RoomTest() { }

    public static void main(String[] args) {
        Check check = new Check("RoomTest");
        com.sun.management.ThreadMXBean threads = (com.sun.management.ThreadMXBean) ManagementFactory.getThreadMXBean();
        long self = Thread.currentThread().getId();
        StarPlates x = full();
        long sum = round(x);
        long before = threads.getThreadAllocatedBytes(self);
        for (int i = 0; i < ROUNDS; i++) sum += round(x);
        long made = threads.getThreadAllocatedBytes(self) - before;
        check.holds("200 rounds of every call made " + made + " bytes; the answers' sum is " + sum, made < ROUNDS * 16L);
        before = threads.getThreadAllocatedBytes(self);
        StarPlates[] many = new StarPlates[100];
        for (int i = 0; i < many.length; i++) many[i] = new StarPlates();
        made = threads.getThreadAllocatedBytes(self) - before;
        check.holds("100 new objects made " + made + " bytes", made < 100 * 10000L && many[99].many(0) == 0);
        check.end();
    }

    private static StarPlates full() {
        StarPlates x = new StarPlates();
        int[][] places = {{0, 0}, {120, 10}, {30, 90}, {-80, 60}, {-50, -110}, {90, -70}, {200, 33}, {-170, 21}};
        for (int i = 0; i < 8; i++) {
            x.star(places[i][0], places[i][1], 10 * i);
            x.spot(0, 2000 + places[i][0] + (i == 7 ? 500 : 0), 2000 + places[i][1], 10 * i);
            x.spot(1, 2000 - places[i][1] + (i == 7 ? 500 : 0), 1000 + places[i][0], 10 * i);
        }
        return x;
    }

    private static long round(StarPlates x) {
        long sum = x.star(1, 2, 3) + x.unstar() + x.spot(0, 1, 2, 3) + x.unspot(0) + x.ofStar(0, 0) + x.ofSpot(0, 0, 0);
        sum += x.star(-170, 21, 70) + x.spot(0, 2330, 2021, 70);
        sum += x.light(0, 0, 1065353216) + x.word(77) + x.number(1065353216) + x.set(0, 2);
        sum += x.triple(-1, 0, 1, 2, 0) + x.alike(0) + x.votes(0, 0, 0) + x.match(0, 0, false) + x.match(1, 0, true);
        sum += x.fit(0, 0, 1) + x.laid(0, 0, 0) + x.off(0, 0) + x.wrong(0, 0) + x.both() + x.carried(0, 0) + x.mover(0, 2);
        sum += x.blinks() + x.keep(0, 0) + x.restore(0, 0) + x.tray(0, 2, 8) + x.lay(0, 0, 0, 0) + x.seen(0, 0);
        for (int what = 0; what < 9; what++) sum += x.many(what);
        return sum;
    }
}
