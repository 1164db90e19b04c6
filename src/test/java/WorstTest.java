/** Promise 7, and when there is no answer. */
public final class WorstTest {
    public static void main(String[] args) {
        Checks c = new Checks();
        byGreatestTimes(c);
        endsOnlyAtEnds(c);
        goingRound(c);
        manyStates(c);
        pairsOnce(c);
        longWay(c);
        c.end();
    }

    private static void byGreatestTimes(Checks c) {
        WorstPaths x = Checks.blocks(5);
        c.is("one block", 5, () -> x.worst());
        Checks.touchAll(x, 0, 1, 2, 1);
        c.is("two misses and a hit", 25, () -> x.worst());
        x.block(1);
        x.block(2);
        x.edge(0, 1);
        x.edge(0, 2);
        c.is("the longer end", 27, () -> x.worst());
        x.touch(1, 3);
        c.is("a miss makes the other longer", 36, () -> x.worst());
        x.edge(1, 2);
        c.is("one end alone", 38, () -> x.worst());
        Checks.touchAll(x, 2, 3, 9);
        c.is("an open touch counts", 58, () -> x.worst());
        c.is("and not for the least time", 37, () -> x.best());
    }

    private static void endsOnlyAtEnds(Checks c) {
        WorstPaths x = Checks.blocks(1, 100, 7);
        x.edge(0, 0);
        x.bound(0, 3);
        c.unsupported("no end", () -> x.worst());
        x.edge(0, 1);
        c.is("an end", 104, () -> x.worst());
        x.edge(1, 1);
        x.bound(2, 2);
        c.unsupported("a way may not stick", () -> x.worst());
        x.edge(0, 2);
        c.is("only the end that is one", 11, () -> x.worst());
        x.bound(3, 0);
        c.unsupported("an edge that is never taken", () -> x.worst());
        x.bound(2, 0);
        c.unsupported("an edge with bound 0 begins there, too", () -> x.worst());
    }

    private static void goingRound(Checks c) {
        WorstPaths x = Checks.blocks(1, 2, 4, 8, 16);
        x.edge(0, 1);
        x.edge(1, 4);
        x.edge(2, 3);
        x.edge(3, 2);
        c.is("round where one does not come", 19, () -> x.worst());
        WorstPaths w = Checks.blocks(1, 2, 4);
        w.edge(0, 1);
        w.edge(2, 1);
        w.edge(2, 2);
        c.is("an edge from there leads back", 3, () -> w.worst());
        x.edge(1, 2);
        c.unsupported("round where one comes", () -> x.worst());
        x.bound(4, 0);
        c.unsupported("bounds do not matter for that", () -> x.worst());
        x.bound(4, WorstPaths.NONE);
        x.pair(2, 3);
        c.unsupported("nor do pairs", () -> x.worst());
        x.bound(3, 1);
        c.is("one bound is enough", 19, () -> x.worst());
        x.edge(4, 4);
        c.unsupported("a block to itself", () -> x.worst());
        WorstPaths y = Checks.blocks(1, 2);
        y.edge(0, 1);
        y.edge(1, 0);
        c.unsupported("back to block 0", () -> y.worst());
    }

    private static void manyStates(Checks c) {
        WorstPaths x = Checks.blocks(1, 1, 1, 1);
        int[] bounds = {15, 4, 4, 4, 4};
        for (int e = 0; e < bounds.length; e++) {
            x.edge(0, 0);
            x.bound(e, bounds[e]);
        }
        x.edge(0, 1);
        c.is("40000", 33, () -> x.worst());
        x.edge(2, 3);
        x.bound(6, 0);
        c.is("a bound of 0 does not count", 33, () -> x.worst());
        x.bound(6, 1);
        c.unsupported("80000, by an edge where one does not come", () -> x.worst());
        x.bound(6, WorstPaths.NONE);
        c.is("40000 again", 33, () -> x.worst());
        x.block(1);
        c.unsupported("50000, by a block where one does not come", () -> x.worst());
        WorstPaths y = Checks.blocks(new int[40]);
        int[] others = {6, 10, 12};
        for (int e = 0; e < others.length; e++) {
            y.edge(1, 2);
            y.bound(e, others[e]);
        }
        c.unsupported("40040", () -> y.worst());
        y.bound(0, 5);
        c.is("34320", 0, () -> y.worst());
        WorstPaths z = Checks.blocks(3);
        for (int e = 0; e < 80; e++) {
            z.edge(0, 0);
            z.bound(e, 15);
        }
        c.unsupported("a product above all numbers", () -> z.worst());
    }

    private static void pairsOnce(Checks c) {
        WorstPaths x = Checks.blocks(1, 1);
        for (int e = 0; e < 8; e++) {
            x.edge(0, 1);
        }
        int[] bounds = {15, 15, 4};
        for (int e = 0; e < bounds.length; e++) {
            x.edge(1, 1);
            x.bound(8 + e, bounds[e]);
        }
        x.block(0);
        x.edge(1, 2);
        x.pair(0, 1);
        c.is("3 * 1280 * 4 = 15360", 36, () -> x.worst());
        x.pair(1, 2);
        c.is("3 * 1280 * 8 = 30720", 36, () -> x.worst());
        x.pair(2, 0);
        c.is("an edge of two pairs counts once", 36, () -> x.worst());
        x.edge(1, 2);
        x.bound(12, 1);
        c.unsupported("61440", () -> x.worst());
    }

    // Forty blocks in a row, thrice round by bounds 15, 15 and 2: 33 * 40 blocks on the way.
    private static void longWay(Checks c) {
        int[] times = new int[40];
        java.util.Arrays.fill(times, 100000);
        WorstPaths x = new WorstPaths(0, 1, 999);
        for (int b = 0; b < 40; b++) {
            x.block(times[b]);
            Checks.touchAll(x, b, 1, 2, 1, 2, 1, 2);
        }
        for (int b = 0; b + 1 < 40; b++) {
            x.edge(b, b + 1);
        }
        int[] bounds = {15, 15, 2};
        for (int i = 0; i < bounds.length; i++) {
            x.edge(38, 0);
            x.bound(39 + i, bounds[i]);
        }
        c.is("a long way", (33L * 39 + 1) * 105994, () -> x.worst());
        c.is("the short one", 40L * 105994, () -> x.best());
        c.is("its last edge", 38, () -> x.way(0, 33 * 39 - 1));
        c.is("behind it", -1, () -> x.way(0, 33 * 39));
    }
}
