/** Promise 9; NoAnswerTest has when there is no answer. */
public final class WayTest {
    public static void main(String[] args) {
        Checks c = new Checks();
        c.test("Edge k of a way with the greatest time (what 0) or the least one (1)",
                WayTest::greatestOrLeast);
        c.test("at each block the lowest edge by which it can be had goes on", WayTest::lowestEdge);
        c.test("at each block the lowest edge by which it can be had goes on", WayTest::byHistory);
        c.test("the lowest edge by which it can be had", WayTest::notByALowerOneThatNeverEnds);
        c.test("NONE behind its last one", WayTest::behindItsLast);
        c.test("NONE behind its last one", WayTest::noEdges);
        c.test("UnsupportedOperationException, when there is no answer; IndexOutOfBoundsException",
                WayTest::noAnswer);
        c.test("IndexOutOfBoundsException, when k is below 0", WayTest::kBelowZero);
        c.test("or for another what", WayTest::anotherWhat);
        c.end();
    }

    /** Block 0 with a loop that is taken twice at most, and an edge to the end. */
    private static WorstPaths loop() {
        WorstPaths x = Checks.blocks(1, 2);
        x.edge(0, 0);
        x.edge(0, 1);
        x.bound(0, 2);
        return x;
    }

    private static void greatestOrLeast(Checks c) {
        WorstPaths x = loop();
        c.is("greatest, 0", 0, () -> x.way(0, 0));
        c.is("greatest, 1", 0, () -> x.way(0, 1));
        c.is("greatest, 2", 1, () -> x.way(0, 2));
        c.is("least, 0", 1, () -> x.way(1, 0));
        // The touch of block 1 is open: by greatest times it takes 15 cycles, by least ones 5.
        WorstPaths y = Checks.blocks(0, 5, 8, 1);
        y.edge(0, 2);
        y.edge(2, 3);
        y.edge(0, 1);
        y.edge(1, 3);
        y.edge(1, 1);
        y.bound(4, 0);
        y.touch(1, 7);
        c.answer("the same blocks", y, 16, "2 3", 6, "2 3");
        y.block(20);
        y.edge(0, 4);
        c.answer("by greatest times another one", y, 20, "5", 6, "2 3");
        y.touch(0, 7);
        y.block(2);
        y.edge(0, 5);
        c.answer("by least times another one", y, 30, "5", 12, "6");
    }

    private static void lowestEdge(Checks c) {
        WorstPaths x = Checks.blocks(1, 3, 3, 1);
        x.edge(2, 3);
        x.edge(0, 2);
        x.edge(0, 1);
        x.edge(1, 3);
        x.edge(0, 2);
        c.answer("of the same time", x, 5, "1 0", 5, "1 0");
        x.bound(1, 0);
        c.answer("the lowest that can be had", x, 5, "2 3", 5, "2 3");
        WorstPaths y = Checks.blocks(0, 7);
        y.edge(0, 0);
        y.edge(0, 1);
        y.bound(0, 3);
        c.answer("rounds that cost nothing", y, 7, "0 0 0 1", 7, "0 0 0 1");
        WorstPaths z = Checks.blocks(0, 7);
        z.edge(0, 1);
        z.edge(0, 0);
        z.bound(1, 3);
        c.answer("the end is lower", z, 7, "0", 7, "0");
        WorstPaths v = Checks.blocks(1, 5, 1, 6, 0);
        Checks.edgesAlong(v, 0, 1, 2, 4);
        Checks.edgesAlong(v, 0, 3, 4);
        c.answer("by the whole way's time, not the next block's", v, 7, "0 1 2", 7, "0 1 2");
        v.touch(2, 1);
        c.answer("the lowest one is not the best one", v, 17, "0 1 2", 7, "3 4");
    }

    // The edge that goes on depends on what has been taken, not on the block alone.
    private static void byHistory(Checks c) {
        WorstPaths x = Checks.blocks(1, 2, 4, 8);
        x.edge(0, 1);
        x.edge(0, 2);
        x.edge(1, 0);
        x.edge(2, 0);
        x.edge(0, 3);
        x.bound(2, 2);
        x.bound(3, 1);
        c.same("the greatest", Checks.wayOf(x, 0), "0 2 0 2 1 3 4");
        x.pair(0, 1);
        c.same("not both", Checks.wayOf(x, 0), "0 2 0 2 4");
        x.bound(2, 1);
        c.same("the better one", Checks.wayOf(x, 0), "1 3 4");
        c.same("the least", Checks.wayOf(x, 1), "4");
        x.pair(4, 1);
        c.same("and one that can end", Checks.wayOf(x, 0), "0 2 4");
    }

    // Edge 0 is lower, but no way ends behind it, whatever the times of both blocks are.
    private static void notByALowerOneThatNeverEnds(Checks c) {
        for (int stuck = 0; stuck < 4; stuck++) {
            for (int end = 0; end < 4; end++) {
                WorstPaths x = Checks.blocks(1, stuck, end);
                x.edge(0, 1);
                x.edge(0, 2);
                x.edge(1, 1);
                x.bound(2, end);
                c.answer("times " + stuck + " and " + end, x, 1 + end, "1", 1 + end, "1");
            }
        }
    }

    private static void behindItsLast(Checks c) {
        WorstPaths x = loop();
        c.is("its last", 1, () -> x.way(0, 2));
        c.is("the least one's last", 1, () -> x.way(1, 0));
        int[] behind = {3, 4, 40, 80, 40000, Integer.MAX_VALUE};
        for (int k : behind) {
            c.is("way(0, " + k + ")", -1, () -> x.way(0, k));
            c.is("way(1, " + k + ")", -1, () -> x.way(1, k));
        }
        c.is("way(1, 1)", -1, () -> x.way(1, 1));
        c.is("way(1, 2)", -1, () -> x.way(1, 2));
    }

    private static void noEdges(Checks c) {
        WorstPaths x = Checks.blocks(1);
        c.is("a way without edges, greatest", -1, () -> x.way(0, 0));
        c.is("a way without edges, least", -1, () -> x.way(1, 0));
        c.is("far behind", -1, () -> x.way(0, Integer.MAX_VALUE));
        c.index("before it", () -> x.way(0, -1));
    }

    private static void noAnswer(Checks c) {
        WorstPaths x = new WorstPaths(0, 1, 0);
        c.unsupported("no block", () -> x.way(0, 0));
        c.unsupported("no block, least", () -> x.way(1, 0));
        c.unsupported("no block, far behind", () -> x.way(1, Integer.MAX_VALUE));
        x.block(1);
        c.is("a block", -1, () -> x.way(0, 0));
    }

    private static void kBelowZero(Checks c) {
        WorstPaths x = loop();
        int[] wrong = {-1, -2, Integer.MIN_VALUE};
        for (int k : wrong) {
            c.index("way(0, " + k + ")", () -> x.way(0, k));
            c.index("way(1, " + k + ")", () -> x.way(1, k));
        }
        c.is("k is 0", 0, () -> x.way(0, 0));
    }

    private static void anotherWhat(Checks c) {
        WorstPaths x = loop();
        int[] wrong = {-1, 2, 3, Integer.MIN_VALUE, Integer.MAX_VALUE};
        for (int what : wrong) {
            c.index("way(" + what + ", 0)", () -> x.way(what, 0));
            c.index("way(" + what + ", 9)", () -> x.way(what, 9));
            c.index("way(" + what + ", -1)", () -> x.way(what, -1));
        }
    }
}
