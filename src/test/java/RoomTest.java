import java.lang.management.ManagementFactory;

/** What a run of 512 calls makes stays far below the room for it, and the dearest calls end. */
public final class RoomTest {
    // An element takes eight bytes at the most: so this is a tenth of 7.3 million of them.
    private static final long MOST_BYTES = 8L * 730_000;

    private static long allocated() {
        com.sun.management.ThreadMXBean threads =
                (com.sun.management.ThreadMXBean) ManagementFactory.getThreadMXBean();
        return threads.getThreadAllocatedBytes(Thread.currentThread().getId());
    }

    // Two blocks, all edges between them, and bounds that change before each question.
    private static void manyStates() {
        WorstPaths x = new WorstPaths(0, 4, 10);
        x.block(1);
        x.block(2);
        int[] bounds = {1, 1, 15, 15, 4};
        for (int e = 0; e < bounds.length; e++) {
            x.edge(0, 0);
            x.bound(e, bounds[e]);
        }
        for (int e = bounds.length; e < 80; e++) {
            x.edge(0, 1);
        }
        for (int i = 0; i < 200; i++) {
            x.bound(0, i % 7);
            x.worst();
        }
    }

    // Rows that grow again and again, a little each time.
    private static void growing() {
        WorstPaths x = new WorstPaths(0, 4, 10);
        x.block(1);
        x.block(2);
        for (int e = 0; e < 4; e++) {
            x.edge(0, 0);
            x.bound(e, 0);
        }
        x.edge(0, 1);
        for (int i = 0; i < 60; i++) {
            x.bound(i % 4, 1 + i / 4);
            try {
                x.worst();
            } catch (UnsupportedOperationException e) {
                continue;
            }
        }
    }

    // Forty blocks with all touches and edges, whose ages change before each question.
    private static void manyAges() {
        WorstPaths x = new WorstPaths(0, 4, 10);
        for (int b = 0; b < 40; b++) {
            x.block(b);
        }
        for (int e = 0; e < 80; e++) {
            x.edge(e % 40, (e * 7 + 1) % 40);
        }
        for (int i = 0; i < 240; i++) {
            x.touch(i % 40, i * 11 % 40);
            x.count(4);
        }
    }

    private static void measure(Checks c, String what, Runnable run) {
        long before = allocated();
        run.run();
        long bytes = allocated() - before;
        System.out.println("  " + what + ": " + bytes + " bytes");
        c.same(what + " stays in its room", bytes < MOST_BYTES, true);
    }

    public static void main(String[] args) {
        Checks c = new Checks();
        measure(c, "many states", RoomTest::manyStates);
        measure(c, "growing rows", RoomTest::growing);
        measure(c, "many ages", RoomTest::manyAges);
        c.end();
    }
}
