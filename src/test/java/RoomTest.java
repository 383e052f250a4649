import java.lang.management.ManagementFactory;

/** All calls of one run live in one room: a call that asks makes nothing, and a new object is small. */
public final class RoomTest {
    private static final com.sun.management.ThreadMXBean THREADS =
        (com.sun.management.ThreadMXBean) ManagementFactory.getThreadMXBean();
    /** 7.3 million elements of the room over 512 calls, at one to eight bytes an element. */
    private static final long MOST_BYTES_OF_ONE = 14_000 * 8L;

    public static void main(String[] args) {
        if (!THREADS.isThreadAllocatedMemorySupported()) {
            System.out.println("this machine does not count what a thread makes");
            return;
        }
        IndexSort x = full();
        ask(x);
        long before = THREADS.getCurrentThreadAllocatedBytes();
        ask(x);
        long asked = THREADS.getCurrentThreadAllocatedBytes() - before;
        // The count itself may make a little; one int of every row or page would be far more.
        Check.same("calls that ask make " + asked + " bytes, too much", "false", Boolean.toString(asked > 256));

        before = THREADS.getCurrentThreadAllocatedBytes();
        IndexSort y = new IndexSort();
        long made = THREADS.getCurrentThreadAllocatedBytes() - before;
        Check.due("the new one is used", 0, () -> y.run());
        Check.same("a new object makes " + made + " bytes, too much", "false", Boolean.toString(made > MOST_BYTES_OF_ONE));
        Check.finish();
    }

    /** As much of all as 512 calls leave room for, with those that ask. */
    private static IndexSort full() {
        IndexSort x = new IndexSort();
        for (int e = 0; e < 60; e++) {
            Check.entry(x, e % 3, e % 3 == 0 ? -1 : e - 1, "" + (char) ('z' - e / 4));
            x.page(e, e % 3, 1 + e * 7 % 50);
            x.page(e, e % 3, 2 + e * 7 % 50);
            x.see(e, e / 2);
        }
        Check.style(x, "%g%n|%w|%w|%p%s");
        return x;
    }

    private static void ask(IndexSort x) {
        x.rule(0, true);
        int rows = x.run();
        for (int i = 0; i < rows; i += 8) {
            for (int what = 0; what < 5; what++) {
                x.row(i, what);
            }
            x.locator(i, 0, 1);
            x.compare(0, i);
        }
        x.told(-1, 0);
        x.print();
        x.at(0);
    }
}
