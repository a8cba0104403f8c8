import java.lang.management.ManagementFactory;

/** The calls make no rows of their own: what a run takes is the object, its events, and exceptions. */
public final class RoomTest {
    private static final com.sun.management.ThreadMXBean THREADS =
            (com.sun.management.ThreadMXBean) ManagementFactory.getThreadMXBean();

    public static void main(String[] args) {
        Check check = new Check("RoomTest");
        ask(full());
        long before = THREADS.getCurrentThreadAllocatedBytes();
        HeatStadium games = full();
        long made = THREADS.getCurrentThreadAllocatedBytes() - before;
        check.due("full games take at most 200000 bytes, not " + made, made <= 200000, true);
        before = THREADS.getCurrentThreadAllocatedBytes();
        ask(games);
        long asked = THREADS.getCurrentThreadAllocatedBytes() - before;
        check.due("questions take at most 2000 bytes, not " + asked, asked <= 2000, true);
        check.finish();
    }

    private static HeatStadium full() {
        HeatStadium games = new HeatStadium();
        for (int athlete = 0; athlete < 30; athlete++) {
            games.athlete(athlete % 8);
        }
        for (int event = 0; event < 5; event++) {
            games.event("rjtrt".charAt(event), 500, 5, 24);
            for (int athlete = 0; athlete < 30; athlete++) {
                games.enter(event, athlete, 500);
            }
        }
        games.bar(1, 100);
        for (int athlete = 0; athlete < 30; athlete++) {
            games.time(0, 0, athlete, 100, false, 0);
            games.time(3, 1, athlete, 100, false, 0);
            games.jump(1, athlete, 'o');
            games.put(2, athlete, 100);
        }
        for (int event = 0; event < 5; event++) {
            games.close(event, true);
        }
        return games;
    }

    private static int ask(HeatStadium games) {
        int sum = 0;
        for (int i = 0; i < 15; i++) {
            sum += games.heatOf(0, 0) + games.laneOf(0, 0, 0) + games.inFinal(0, 0) + games.rankOf(2, 0);
            sum += games.record(2) + games.holder(1) + games.sharers(0) + games.medals(0, 0);
            sum += games.inTable(0, true) + (int) games.points(0) + games.shareBits(0);
            sum += games.isTrue() ? 1 : 0;
        }
        return sum;
    }
}
