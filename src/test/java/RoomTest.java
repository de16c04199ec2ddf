import com.sun.management.ThreadMXBean;
import java.lang.management.ManagementFactory;
import java.util.Random;

/** All calls of a run share one room: an object stays small, and calls use again what was made before. */
public final class RoomTest {
    /** Far below the 7.3 million elements of four bytes that a whole run may make. */
    private static final long MOST_OF_NEW = 40000, MOST_OF_TREES = 200000, MOST_OF_AGAIN = 20000;

    private final ThreadMXBean meter = (ThreadMXBean) ManagementFactory.getThreadMXBean();

    public static void main(String[] args) {
        RoomTest test = new RoomTest();
        // The first time classes are loaded, too, which is no room of the object's.
        test.measure(false);
        test.measure(true);
        Check.end();
    }

    private void measure(boolean counts) {
        long start = meter.getCurrentThreadAllocatedBytes();
        ResidualTrees x = new ResidualTrees();
        long made = meter.getCurrentThreadAllocatedBytes();
        fill(x, new Random(7));
        long filled = meter.getCurrentThreadAllocatedBytes();
        x.train(16);
        useAll(x);
        long trained = meter.getCurrentThreadAllocatedBytes();
        for (int i = 0; i < 10; i++) {
            x.drop(i);
            x.train(16 - i);
            useAll(x);
        }
        long again = meter.getCurrentThreadAllocatedBytes();
        if (counts) {
            isBelow("a new object", made - start, MOST_OF_NEW);
            isBelow("sixteen trees", trained - filled, MOST_OF_TREES);
            isBelow("the same calls again", again - trained, MOST_OF_AGAIN);
        }
    }

    private static void fill(ResidualTrees x, Random random) {
        x.begin(6);
        for (int row = 0; row < 48; row++) {
            x.add(random.nextInt(2001) - 1000);
            for (int c = 0; c < 6; c++) {
                x.put(row, c, random.nextInt(12));
            }
        }
        for (int c = 0; c < 6; c++) {
            if (c < 3) {
                x.kinds(c, true);
            } else {
                x.cut(c, true, 12);
            }
        }
        x.shape(4, 1, 3);
    }

    private static void useAll(ResidualTrees x) {
        x.error(-1, 16);
        x.best(-1);
        x.count(3);
        x.tell(15, 0);
        x.residual(47, 16);
        x.predict(16);
        x.uses(0);
    }

    private static void isBelow(String what, long bytes, long most) {
        if (bytes > most) {
            Check.say(what + " took " + bytes + " bytes, at most " + most + " are due");
        }
    }
}
