import java.lang.management.ManagementFactory;

/**
 * All calls of a run live in one room of some 600,000 objects and 7.3 million elements: an object
 * and 512 of its dearest calls must need far less. Also: the dearest calls end soon.
 */
public final class RoomTest {
    private static final Due DUE = new Due("RoomTest");
    private static final long MOST_BYTES = 4000000;

    public static void main(String[] args) {
        dearest();
        // once more, when the classes are loaded
        long before = allocated();
        long start = System.nanoTime();
        dearest();
        long bytes = allocated() - before;
        System.out.println("RoomTest: " + bytes + " bytes, " + (System.nanoTime() - start) / 1000000 + " ms");
        DUE.that("few bytes: " + bytes, bytes < MOST_BYTES);
        DUE.close();
    }

    private static long allocated() {
        return ((com.sun.management.ThreadMXBean) ManagementFactory.getThreadMXBean()).getThreadAllocatedBytes(Thread.currentThread().getId());
    }

    private static void dearest() {
        WhaleLays x = new WhaleLays();
        int calls = 0;
        for (int i = 0; i < 8; i++) {
            x.sign(100 + i, i);
            calls++;
        }
        for (int i = 0; i < 4; i++) {
            x.ground(99, 3, 3, 3);
            calls++;
        }
        x.terms(1, 999);
        x.image(0);
        calls += 2;
        String law = "casks 7+ground*3;deserts if lay*lay%7+lay*lay%11+lay*lay%13+lay*lay%17+debt<0 or hand>9 or lay<1 or oil<0";
        while (calls < 480) {
            calls += 1 + (law.length() + 19) / 20 + 1;
            Due.rule(x, law);
            x.best(12, 0);
            x.odds(0, 24, 500);
            x.least(3);
            x.crew(3, 16, 1);
            x.ask(1);
            x.left(0);
            x.years(7, 60);
            Due.orders(x, "hunt 0 for 1 times 20;sell 1 times 20;sell 999");
            x.back(0);
            calls += 14;
        }
        DUE.is("the texts were read", x.fault(), -1);
        DUE.is("the orders were run", x.stopped(), 2);
    }
}
