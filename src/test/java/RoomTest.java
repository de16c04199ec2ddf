import com.sun.management.ThreadMXBean;
import java.lang.management.ManagementFactory;
import java.util.Random;

/**
 * All calls of a run share one room of some 600,000 objects and arrays, and 7.3 million fields and elements. Each of
 * these takes a byte at least, and an object 16 of them, so a run that takes fewer bytes than that is within the room.
 */
public final class RoomTest {
    private static final long MOST_BYTES = 7300000;
    private static final int MOST_CALLS = 512;

    private final ThreadMXBean meter = (ThreadMXBean) ManagementFactory.getThreadMXBean();

    public static void main(String[] args) {
        RoomTest test = new RoomTest();
        // The first time classes are loaded, too, which is no room of the object's.
        test.measure();
        long bytes = test.measure();
        if (bytes > MOST_BYTES) {
            Check.say("a run took " + bytes + " bytes, at most " + MOST_BYTES + " are due");
        }
        Check.end();
    }

    /** How many bytes a run takes that is made of the dearest calls. */
    private long measure() {
        long before = meter.getCurrentThreadAllocatedBytes();
        ResidualTrees x = new ResidualTrees();
        int calls = fill(x);
        for (int i = 0; calls + 9 <= MOST_CALLS; i++) {
            x.drop(i % 8);
            x.train(16 - i % 8);
            x.error(-1, 16);
            x.best(-1);
            x.count(3);
            x.tell(15, 0);
            x.residual(47, 16);
            x.predict(16);
            x.uses(0);
            calls += 9;
        }
        return meter.getCurrentThreadAllocatedBytes() - before;
    }

    /** A full table of four columns: how many calls it took. */
    private static int fill(ResidualTrees x) {
        Random random = new Random(7);
        x.begin(4);
        for (int row = 0; row < 48; row++) {
            x.add(random.nextInt(2001) - 1000);
            for (int c = 0; c < 4; c++) {
                x.put(row, c, random.nextInt(12));
            }
        }
        x.kinds(0, true);
        x.kinds(1, true);
        x.cut(2, true, 12);
        x.cut(3, false, 12);
        x.shape(4, 1, 3);
        return 1 + 48 * 5 + 5;
    }
}
