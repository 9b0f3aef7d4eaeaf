import java.lang.management.ManagementFactory;

/** All calls live in one room: what is needed is made in the constructor, and no call makes more. */
public final class RoomTest {
    private static final int ENOUGH_FOR_ONE = 100000, ENOUGH_FOR_CALLS = 20000;

    public static void main(String[] args) {
        Checks checks = new Checks();
        useAll(new TrunkReserve());
        long start = allocated();
        TrunkReserve x = new TrunkReserve();
        long made = allocated() - start;
        checks.holds("a new object takes " + made + " bytes", made < ENOUGH_FOR_ONE);
        start = allocated();
        useAll(x);
        long used = allocated() - start;
        checks.holds("calls take " + used + " bytes", used < ENOUGH_FOR_CALLS);
        checks.finish();
    }

    private static long allocated() {
        return ((com.sun.management.ThreadMXBean) ManagementFactory.getThreadMXBean()).getThreadAllocatedBytes(
            Thread.currentThread().getId());
    }

    private static void useAll(TrunkReserve x) {
        for (int i = 0; i < 512; i++) {
            x.build(4);
            for (int g = 0; g < 4; g++) {
                x.shape(g, 6, 6, 1, (g + 1) % 4, g);
                x.run(g, 6, i % 6);
                x.over(g, i % 4);
                x.linesFor(g, 6, 1);
                x.bestReserve(g, 6, 1);
                x.call(g);
                x.damage(g, 1);
                x.mend(g, 1);
                x.end(g, 0);
                x.write(g, 0, 0);
                x.group(g, i % 15);
                x.line(g, 0, i % 3);
            }
            x.drift(20);
            x.told(i % 9);
            x.undo(20);
            x.keep(i % 2);
            x.goBack(i % 2);
            x.seed(i);
            x.tear();
        }
    }
}
