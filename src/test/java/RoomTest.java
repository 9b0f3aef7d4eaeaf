import com.sun.management.ThreadMXBean;
import java.lang.management.ManagementFactory;

/** All calls live in one room: what is needed is made in the constructor, and no call makes more. */
public final class RoomTest {
    private static final int TRIES = 20, ENOUGH_FOR_ONE = 100000;
    // Every method is called nine times at least, and no object is smaller than 16 bytes.
    private static final int LEAST_THAT_ONE_MAKES = 9 * 16;
    private static final ThreadMXBean BEAN = (ThreadMXBean) ManagementFactory.getThreadMXBean();

    public static void main(String[] args) {
        Checks checks = new Checks();
        long looking = Long.MAX_VALUE;
        long made = Long.MAX_VALUE;
        long used = Long.MAX_VALUE;
        // The least of several tries, for the machine makes objects of its own now and then.
        for (int i = 0; i < TRIES; i++) {
            long first = allocated();
            long second = allocated();
            TrunkReserve x = new TrunkReserve();
            long third = allocated();
            useAll(x);
            long fourth = allocated();
            looking = Math.min(looking, second - first);
            made = Math.min(made, third - second);
            used = Math.min(used, fourth - third);
        }
        checks.holds("a new object takes " + made + " bytes", made < ENOUGH_FOR_ONE);
        checks.holds("calls of all kinds take " + (used - looking) + " bytes", used - looking < LEAST_THAT_ONE_MAKES);
        checks.finish();
    }

    private static long allocated() {
        return BEAN.getThreadAllocatedBytes(Thread.currentThread().getId());
    }

    /** 9 times 56 calls of all kinds: about as many as the document allows. */
    private static void useAll(TrunkReserve x) {
        for (int i = 0; i < 9; i++) {
            x.build(4);
            for (int g = 0; g < 4; g++) {
                x.shape(g, 6, 6, 1, (g + 1) % 4, g);
                x.run(g, 6, i % 6);
                x.over(g, i % 4);
                x.linesFor(g, 6, 1);
                x.bestReserve(g, 6, 1);
                x.call(g);
                x.damage(g, 1);
                x.mend(g, 1);
                x.end(g, 0);
                x.write(g, 0, 0);
                x.group(g, (4 * i + g) % 15);
                x.line(g, 0, i % 3);
            }
            x.drift(20);
            x.told(i);
            x.undo(20);
            x.keep(i % 2);
            x.goBack(i % 2);
            x.seed(i);
            x.tear();
        }
    }
}
