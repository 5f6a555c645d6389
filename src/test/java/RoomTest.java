import com.sun.management.ThreadMXBean;
import java.lang.management.ManagementFactory;

/** What an object takes is made with it; calls make nothing more. */
public final class RoomTest {
    public static void main(String[] args) {
        ThreadMXBean threads = (ThreadMXBean) ManagementFactory.getThreadMXBean();
        // Once unmeasured, so that what the machine loads for itself isn't counted.
        calls(new NoViewWithoutQuarrel());
        long id = Thread.currentThread().getId();
        long start = threads.getThreadAllocatedBytes(id);
        NoViewWithoutQuarrel x = new NoViewWithoutQuarrel();
        long made = threads.getThreadAllocatedBytes(id);
        calls(x);
        long called = threads.getThreadAllocatedBytes(id);
        System.out.println("a new object: " + (made - start) + " bytes, calls of every kind: " + (called - made));
        // Some 3,000 elements: over two thousand objects have room in one run.
        Check.holds("a new object is small", made - start < 20000);
        Check.holds("calls make nothing", called - made < 2000);
        Check.end();
    }

    private static void calls(NoViewWithoutQuarrel x) {
        long sum = 0;
        for (int i = 0; i < 2; i++) {
            sum += x.sheet(0, 2, 15);
            sum += x.sheet(1, 2, 15);
            sum += x.cell(0, 3, 1);
            sum += x.copy(0, 0, 1, 0, 9);
            sum += x.pairs(0, 2, 0, 3);
            sum += x.taken(0, 0);
            sum += x.pair(0, 0, 3);
            sum += x.set(0, 0, 3);
            sum += x.told(0, 7);
            for (int j = 0; j < 160; j++) {
                sum += x.feed("heats word*(anger<50);cools 1;far anger;".charAt(j % 41 % 40));
            }
            sum += x.text();
            sum += x.force(0);
            sum += x.say(0, 3);
            sum += x.quiet(3);
            for (int what = 0; what < 5; what++) {
                sum += x.view(what) + x.clear(what);
            }
            sum += x.fewest(0, 40, 1) + x.words(0, 1) + x.stays(0, 3) + x.rows(0, 30, 20, 0) + x.whom(39, 1);
            for (int what = 0; what < 8; what++) {
                sum += x.tells(0, 0, what);
            }
            sum += x.film(2, 0, 40) + x.drawn(7, 0, 99) + x.chance(7, 20, 0, 30, 1);
            sum += x.image() + x.back() + x.count(2);
        }
        if (sum == 1) {
            System.out.println("so it is used");
        }
    }
}
