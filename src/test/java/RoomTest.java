import com.sun.management.ThreadMXBean;
import java.lang.management.ManagementFactory;

// All calls of a run live in one room: an object makes its rows when it is made, and no call makes any more.
public final class RoomTest {
    private static final long MOST_FOR_AN_OBJECT = 16_000;
    private static final long MOST_FOR_ALL_CALLS = 20_000;

    private static final ThreadMXBean THREADS = (ThreadMXBean) ManagementFactory.getThreadMXBean();

    private static long made() {
        return THREADS.getThreadAllocatedBytes(Thread.currentThread().getId());
    }

    private static void routine(DoFinder x, int arguments, int[] steps) {
        for (int step : steps) {
            x.step(step);
        }
        x.add(arguments);
    }

    /** As many joints as there can be, some routines running out of fuel. */
    private static void fill(DoFinder x) {
        int[] sum = {10, 11, 12};
        int[] loop = {1, 10, 22};
        int[] itself = {10};
        for (int r = 0; r < 6; r++) {
            routine(x, 1, r % 2 == 0 ? itself : loop);
            routine(x, 2, r % 3 == 0 ? loop : sum);
        }
        x.limit(200);
    }

    private static int callAll(DoFinder x) {
        int calls = 0;
        long sum = 0;
        for (int arguments = 1; arguments <= 2; arguments++) {
            x.ask(arguments);
            for (int examples = 0; examples <= 8; examples++) {
                for (int what = 0; what < 10; what++) {
                    sum += x.many(what);
                }
                sum += x.found(0) + x.open(1) + x.joint(2) + x.near(3) + x.misses(70101) + x.would(10001, 5, 5);
                sum += x.parting(3) + x.same(0, 4) + x.differ(1, 5) + x.first(11) + x.run(0, 1, 1) + x.fuel(2, 1, 1);
                sum += x.mend(0, 0, 10) + x.of(0, 10) + x.like(2, examples);
                calls += 25;
                sum += x.show(examples, 0, examples) + x.step(3) + x.scrap();
                calls += 3;
            }
        }
        return sum == Long.MIN_VALUE ? 0 : calls;
    }

    public static void main(String[] args) {
        // What the machine makes when it sees the class for the first time doesn't count.
        DoFinder before = new DoFinder();
        fill(before);
        callAll(before);
        made();

        long start = made();
        DoFinder x = new DoFinder();
        long object = made() - start;
        fill(x);
        start = made();
        int calls = callAll(x);
        long all = made() - start;
        System.out.println("an object takes " + object + " bytes, " + calls + " calls " + all + " more");
        if (object > MOST_FOR_AN_OBJECT || all > MOST_FOR_ALL_CALLS) {
            System.out.println("at most " + MOST_FOR_AN_OBJECT + " and " + MOST_FOR_ALL_CALLS + " are due");
            System.exit(1);
        }
    }
}
