/** The terms of ways: where they begin, how they go on, where they may end. */
public final class TermsTest {
    public static void main(String[] args) {
        Checks c = new Checks();
        c.test("A WAY begins in block 0", TermsTest::beginsInBlockZero);
        c.test("goes by edges as bounds and pairs allow", TermsTest::asBoundsAndPairsAllow);
        c.test("ends in a block from which no edge begins", TermsTest::endsWhereNoEdgeBegins);
        c.test("it may end nowhere else", TermsTest::endsNowhereElse);
        c.test("it may end nowhere else", TermsTest::edgesThatAreNeverTaken);
        c.end();
    }

    private static void beginsInBlockZero(Checks c) {
        WorstPaths x = Checks.blocks(5, 1, 100);
        c.answer("other blocks without edges", x, 5, "", 5, "");
        x.edge(1, 2);
        c.answer("edges between others", x, 5, "", 5, "");
        x.edge(1, 0);
        x.edge(2, 0);
        c.answer("edges that lead to block 0", x, 5, "", 5, "");
        x.edge(0, 2);
        x.bound(2, 1);
        c.noAnswer("from block 0 on, back to it, and no end", x);
        WorstPaths y = Checks.blocks(1, 2, 4);
        Checks.edgesAlong(y, 0, 2, 1);
        c.answer("against the order of blocks", y, 7, "0 1", 7, "0 1");
    }

    private static void asBoundsAndPairsAllow(Checks c) {
        WorstPaths x = Checks.blocks(1, 10, 100);
        x.edge(0, 1);
        x.edge(1, 1);
        x.edge(1, 2);
        x.edge(0, 2);
        x.bound(1, 3);
        c.answer("by a bound", x, 141, "0 1 1 1 2", 101, "3");
        x.pair(1, 2);
        c.answer("by a pair", x, 111, "0 2", 101, "3");
        x.pair(2, 0);
        c.answer("by two pairs", x, 101, "3", 101, "3");
    }

    private static void endsWhereNoEdgeBegins(Checks c) {
        WorstPaths x = Checks.blocks(1);
        c.answer("block 0 itself", x, 1, "", 1, "");
        x.block(2);
        x.block(4);
        x.edge(0, 1);
        x.edge(0, 2);
        c.answer("several such blocks", x, 5, "1", 3, "0");
        x.edge(1, 2);
        c.answer("one of them no more", x, 7, "0 2", 5, "1");
    }

    private static void endsNowhereElse(Checks c) {
        WorstPaths x = Checks.blocks(1, 100, 7);
        x.edge(0, 0);
        x.bound(0, 3);
        c.noAnswer("where a bound is used up", x);
        x.edge(0, 1);
        c.answer("behind it", x, 104, "0 0 0 1", 101, "1");
        x.edge(1, 1);
        x.bound(2, 2);
        c.noAnswer("where it would stick", x);
        x.edge(0, 2);
        c.answer("only where it may", x, 11, "0 0 0 3", 8, "3");
        // Behind edge 0 neither edge of block 1 may be taken: a way does not end there, either.
        WorstPaths y = Checks.blocks(1, 1000, 2);
        y.edge(0, 1);
        y.edge(1, 2);
        y.edge(0, 2);
        y.pair(0, 1);
        c.answer("where a pair forbids to go on", y, 3, "2", 3, "2");
    }

    private static void edgesThatAreNeverTaken(Checks c) {
        WorstPaths x = Checks.blocks(1, 2, 4);
        x.edge(0, 1);
        x.edge(0, 2);
        x.edge(2, 2);
        x.bound(2, 0);
        c.answer("an edge with bound 0 begins there, too", x, 3, "0", 3, "0");
        x.bound(0, 0);
        c.noAnswer("no end is left", x);
        WorstPaths y = Checks.blocks(1);
        y.edge(0, 0);
        y.bound(0, 0);
        c.noAnswer("block 0, with an edge that is never taken", y);
    }
}
