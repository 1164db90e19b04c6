import com.sun.management.ThreadMXBean;
import java.lang.management.ManagementFactory;

/** Were each of the 512 calls the dearest single one, what a run makes would still fit in its room. */
public final class RoomTest {
    private static final int CALLS = 512;
    private static final int PLAYS = 10;
    private static final long MOST_OBJECTS = 600_000;
    private static final long MOST_ELEMENTS = 7_300_000;
    // No field or element takes less than a byte, and no object or array less than eight: so
    // bytes tell more of both than there are.
    private static final int LEAST_BYTES_OF_OBJECT = 8;

    private static final ThreadMXBean THREADS =
            (ThreadMXBean) ManagementFactory.getThreadMXBean();

    private final WorstPaths x;
    private final long bytesOfNew;
    private long dearestAnswer = 0;
    private long dearestThrow = 0;
    private int answers = 0;
    private int throwsSeen = 0;

    private RoomTest(int sets, int ways, int penalty) {
        long before = allocated();
        WorstPaths made = new WorstPaths(sets, ways, penalty);
        bytesOfNew = allocated() - before;
        x = made;
    }

    private interface Scene {
        RoomTest play();
    }

    /** Without an answer: to hand on a number as an object would be the test's own making. */
    private interface Call {
        void make();
    }

    private static long allocated() {
        return THREADS.getThreadAllocatedBytes(Thread.currentThread().getId());
    }

    private void call(Call call) {
        long before = allocated();
        boolean thrown = false;
        try {
            call.make();
        } catch (RuntimeException e) {
            thrown = true;
        }
        long bytes = allocated() - before;
        if (thrown) {
            throwsSeen++;
            dearestThrow = Math.max(dearestThrow, bytes);
        } else {
            answers++;
            dearestAnswer = Math.max(dearestAnswer, bytes);
        }
    }

    private void askForWays() {
        call(() -> x.worst());
        call(() -> x.best());
        call(() -> x.way(0, 5));
        call(() -> x.way(1, 5));
    }

    private void askForAges() {
        call(() -> x.count(4));
        call(() -> x.touches(0, 0));
        call(() -> x.age(0, 1, 0));
        call(() -> x.time(0, 0));
    }

    // Two blocks, loops with bounds at the first: as many states as an answer may have, and then
    // fewer and more of them by turns, up to too many.
    private static RoomTest manyStates() {
        RoomTest r = new RoomTest(0, 4, 10);
        r.call(() -> r.x.block(1));
        r.call(() -> r.x.block(2));
        int[] bounds = {9, 9, 9, 9, 1};
        for (int e = 0; e < bounds.length; e++) {
            int edge = e;
            r.call(() -> r.x.edge(0, 0));
            r.call(() -> r.x.bound(edge, bounds[edge]));
        }
        r.call(() -> r.x.edge(0, 1));
        r.askForWays();
        for (int n = 0; n <= 15; n++) {
            int bound = n;
            r.call(() -> r.x.bound(0, bound));
            r.askForWays();
        }
        return r;
    }

    // From one state for each block to the most of them, by one step after the other.
    private static RoomTest growing() {
        RoomTest r = new RoomTest(0, 4, 10);
        r.call(() -> r.x.block(1));
        r.call(() -> r.x.block(2));
        for (int e = 0; e < 4; e++) {
            int edge = e;
            r.call(() -> r.x.edge(0, 0));
            r.call(() -> r.x.bound(edge, 0));
        }
        r.call(() -> r.x.edge(0, 1));
        for (int i = 0; i < 60; i++) {
            int step = i;
            r.call(() -> r.x.bound(step % 4, 1 + step / 4));
            r.askForWays();
        }
        return r;
    }

    // A chain of forty blocks with loops, and pairs up to 38400 states.
    private static RoomTest pairs() {
        RoomTest r = new RoomTest(0, 4, 10);
        for (int b = 0; b < 40; b++) {
            int time = b;
            r.call(() -> r.x.block(time));
        }
        for (int e = 0; e < 78; e++) {
            int edge = e;
            r.call(() -> r.x.edge(edge / 2, edge / 2 + 1 - edge % 2));
            r.call(() -> r.x.bound(edge, edge % 2 == 0 ? WorstPaths.NONE : 0));
        }
        r.call(() -> r.x.bound(1, 14));
        for (int i = 0; i < 4; i++) {
            int first = 6 * i;
            r.call(() -> r.x.pair(first, first + 3));
            r.askForWays();
        }
        return r;
    }

    // Forty blocks with all touches and edges, whose ages change between questions.
    private static RoomTest manyAges() {
        RoomTest r = new RoomTest(0, 4, 10);
        for (int b = 0; b <= 40; b++) {
            int time = b;
            r.call(() -> r.x.block(time));
        }
        for (int e = 0; e <= 80; e++) {
            int edge = e;
            r.call(() -> r.x.edge(edge % 40, (edge * 7 + 1) % 40));
        }
        for (int i = 0; i <= 240; i++) {
            int touch = i;
            r.call(() -> r.x.touch(touch % 40, touch * 11 % 40));
            // Not behind each one: an object is used for 512 calls.
            if (touch % 10 == 0) {
                r.askForAges();
            }
        }
        return r;
    }

    private static RoomTest wrongCalls() {
        RoomTest r = new RoomTest(0, 4, 10);
        r.askForWays();
        r.askForAges();
        r.call(() -> r.x.block(-1));
        r.call(() -> r.x.touch(0, 0));
        r.call(() -> r.x.edge(0, 0));
        r.call(() -> r.x.bound(0, 0));
        r.call(() -> r.x.pair(0, 0));
        r.call(() -> r.x.count(8));
        return r;
    }

    // Now and then the machine makes things of its own (classes, texts, links), most of them when
    // a scene is played first: of some plays the one with the least is what the class makes.
    private static RoomTest cheapestPlay(Scene scene) {
        RoomTest cheapest = scene.play();
        for (int i = 1; i < PLAYS; i++) {
            RoomTest next = scene.play();
            if (next.bytesOfRun() < cheapest.bytesOfRun()) {
                cheapest = next;
            }
        }
        return cheapest;
    }

    private long bytesOfRun() {
        return bytesOfNew + CALLS * (dearestAnswer + dearestThrow);
    }

    private static void measure(Checks c, String what, int throwsDue, Scene scene) {
        RoomTest r = cheapestPlay(scene);
        long bytes = r.bytesOfRun();
        System.out.println("  " + what + ": " + r.bytesOfNew + " bytes with the object, "
                + r.dearestAnswer + " with the dearest of " + r.answers + " answers, "
                + r.dearestThrow + " with the dearest of " + r.throwsSeen + " throws");
        c.same(what + ": calls that throw", r.throwsSeen, throwsDue);
        c.same(what + ": the dearest answer makes", r.dearestAnswer, 0);
        c.same(what + ": elements fit", bytes < MOST_ELEMENTS, true);
        c.same(what + ": objects fit", bytes / LEAST_BYTES_OF_OBJECT < MOST_OBJECTS, true);
    }

    // The rows of the object are the same for every number of states: the answers must be, too.
    private static void checkAnswersAtTheEdge(Checks c) {
        WorstPaths x = Checks.blocks(1, 2);
        int[] bounds = {9, 9, 9, 9, 1};
        for (int e = 0; e < bounds.length; e++) {
            x.edge(0, 0);
            x.bound(e, bounds[e]);
        }
        x.edge(0, 1);
        c.is("worst at 40000 states", 40, x::worst);
        c.is("best at 40000 states", 3, x::best);
        c.is("the last edge at 40000 states", 5, () -> x.way(0, 37));
        c.is("behind it", WorstPaths.NONE, () -> x.way(0, 38));
        x.bound(0, 10);
        c.unsupported("worst at 44000 states", x::worst);
        x.bound(0, 0);
        c.is("worst at 4000 states", 31, x::worst);
        x.bound(0, 9);
        c.is("worst at 40000 states again", 40, x::worst);
    }

    public static void main(String[] args) {
        Checks c = new Checks();
        measure(c, "many states", 24, RoomTest::manyStates);
        measure(c, "growing states", 68, RoomTest::growing);
        measure(c, "pairs", 1, RoomTest::pairs);
        measure(c, "many ages", 3, RoomTest::manyAges);
        measure(c, "wrong calls", 12, RoomTest::wrongCalls);
        checkAnswersAtTheEdge(c);
        c.end();
    }
}
