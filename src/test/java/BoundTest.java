/** Promise 5. */
public final class BoundTest {
    public static void main(String[] args) {
        Checks c = new Checks();
        c.test("An edge's bound (NONE: none): the one before.", BoundTest::theOneBefore);
        c.test("(NONE: none)", BoundTest::none);
        c.test("IndexOutOfBoundsException, when there is no such edge", BoundTest::noSuchEdge);
        c.test("IllegalArgumentException, when n is not NONE or 0 .. 15.", BoundTest::tooSmall);
        c.test("IllegalArgumentException, when n is not NONE or 0 .. 15.", BoundTest::tooLarge);
        c.test("(so often it is taken at most, 0 .. 15)", BoundTest::soOften);
        c.test("0 .. 15", BoundTest::never);
        c.end();
    }

    /** Block 0 with a loop, edge 0, and the edge 1 to the end. */
    private static WorstPaths loop() {
        WorstPaths x = Checks.blocks(1, 100);
        x.edge(0, 0);
        x.edge(0, 1);
        return x;
    }

    private static void theOneBefore(Checks c) {
        WorstPaths x = loop();
        int[] bounds = {0, 15, 15, 1, -1, -1, 14, 0, 0, -1, 15};
        int before = -1;
        for (int n : bounds) {
            c.is("behind it, bound(0, " + n + ")", before, () -> x.bound(0, n));
            before = n;
        }
        c.is("the other edge has its own", -1, () -> x.bound(1, 3));
        c.is("which is this", 3, () -> x.bound(1, 0));
        c.is("and the first one has its own still", 15, () -> x.bound(0, 0));
    }

    private static void none(Checks c) {
        WorstPaths x = loop();
        x.bound(0, 2);
        c.answer("with a bound", x, 103, "0 0 1", 101, "1");
        c.is("none", 2, () -> x.bound(0, WorstPaths.NONE));
        c.noAnswer("round without a bound", x);
        c.is("none before", -1, () -> x.bound(0, 1));
        c.answer("with a bound again", x, 102, "0 1", 101, "1");
        x.bound(1, 0);
        c.noAnswer("not taken", x);
        x.bound(1, WorstPaths.NONE);
        c.answer("taken again", x, 102, "0 1", 101, "1");
        x.bound(1, 15);
        c.answer("with a bound that it does not reach", x, 102, "0 1", 101, "1");
        x.bound(1, WorstPaths.NONE);
        c.answer("nothing is left of it", x, 102, "0 1", 101, "1");
        // Behind the loop, edges that had a bound once are taken as often as the loop is.
        WorstPaths y = Checks.blocks(1, 10, 100);
        Checks.edgesAlong(y, 0, 1, 0);
        y.edge(0, 2);
        y.bound(0, 1);
        y.bound(1, 3);
        c.answer("once by the first edge", y, 112, "0 1 2", 101, "2");
        y.bound(0, WorstPaths.NONE);
        c.answer("thrice by the other one", y, 134, "0 1 0 1 0 1 2", 101, "2");
    }

    private static void noSuchEdge(Checks c) {
        WorstPaths x = Checks.blocks(1, 10);
        c.index("without edges", () -> x.bound(0, 1));
        x.edge(0, 0);
        x.edge(0, 1);
        int[] wrong = {-1, 2, 3, 79, 80, Integer.MIN_VALUE, Integer.MAX_VALUE};
        for (int e : wrong) {
            c.index("bound(" + e + ", 1)", () -> x.bound(e, 1));
            c.index("bound(" + e + ", NONE)", () -> x.bound(e, WorstPaths.NONE));
        }
        c.is("the last edge", -1, () -> x.bound(1, 1));
        x.edge(0, 1);
        c.is("a new edge has none by them", -1, () -> x.bound(2, 1));
    }

    private static void tooSmall(Checks c) {
        refused(c, -2);
        refused(c, -15);
        refused(c, Integer.MIN_VALUE);
    }

    private static void tooLarge(Checks c) {
        refused(c, 16);
        refused(c, 17);
        refused(c, Integer.MAX_VALUE);
    }

    private static void refused(Checks c, int n) {
        WorstPaths x = loop();
        c.argument("bound(0, " + n + ")", () -> x.bound(0, n));
        c.is("no bound by it", -1, () -> x.bound(0, 3));
        c.argument("bound(0, " + n + ") again", () -> x.bound(0, n));
        c.answer("the bound is as it was", x, 104, "0 0 0 1", 101, "1");
        c.is("as it was", 3, () -> x.bound(0, 3));
    }

    private static void soOften(Checks c) {
        WorstPaths x = loop();
        for (int n = 0; n <= 15; n++) {
            int often = n;
            x.bound(0, n);
            c.is("bound " + n + ": the most", 101 + often, x::worst);
            c.is("bound " + n + ": the fewest", 101, x::best);
            c.is("bound " + n + ": the edge to the end", 1, () -> x.way(0, often));
            c.is("bound " + n + ": behind it", -1, () -> x.way(0, often + 1));
        }
        // On a way over several blocks the edge is counted, not its blocks.
        WorstPaths y = Checks.blocks(1, 10, 100);
        Checks.edgesAlong(y, 0, 1, 0);
        y.edge(0, 2);
        y.bound(0, 2);
        y.bound(1, 15);
        c.answer("twice by the lower bound", y, 123, "0 1 0 1 2", 101, "2");
        WorstPaths z = Checks.blocks(1, 10, 100);
        z.edge(0, 1);
        z.edge(1, 0);
        z.edge(1, 0);
        z.edge(0, 2);
        z.bound(1, 1);
        z.bound(2, 2);
        c.answer("each edge has its own count", z, 134, "0 1 0 2 0 2 3", 101, "3");
    }

    private static void never(Checks c) {
        WorstPaths x = Checks.blocks(1, 2, 4);
        x.edge(0, 1);
        x.edge(0, 2);
        x.bound(1, 0);
        c.answer("bound 0 is never taken", x, 3, "0", 3, "0");
        x.bound(0, 0);
        c.noAnswer("none is ever taken", x);
        x.bound(1, 1);
        c.answer("bound 1 is taken", x, 5, "1", 5, "1");
    }
}
