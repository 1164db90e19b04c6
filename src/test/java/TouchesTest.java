/** Promise 10; CacheTest has the cache behind it. */
public final class TouchesTest {
    public static void main(String[] args) {
        Checks c = new Checks();
        c.test("What touch i of a block does: 1, 2, 0 as told", TouchesTest::asTold);
        c.test("A touch HITS (1), when its line is surely there then", TouchesTest::thenAndNotBefore);
        c.test("What touch i of a block does: 1, 2, 0 as told", TouchesTest::withoutAnAnswer);
        c.test("NONE, when the block is not come to", TouchesTest::notComeTo);
        c.test("IndexOutOfBoundsException, when there is none.", TouchesTest::noSuchBlock);
        c.test("IndexOutOfBoundsException, when there is none.", TouchesTest::noSuchTouch);
        c.end();
    }

    private static void asTold(Checks c) {
        WorstPaths x = Checks.blocks(1, 1, 1, 1);
        Checks.touchAll(x, 0, 1, 2, 1, 3, 2, 1);
        c.same("two lines, by last use", Checks.touchesOf(x, 0, 6), "2 2 1 2 2 2");
        x.edge(0, 1);
        x.edge(0, 2);
        x.edge(1, 3);
        x.edge(2, 3);
        Checks.touchAll(x, 1, 7);
        Checks.touchAll(x, 2, 8);
        Checks.touchAll(x, 3, 1, 7, 8, 2);
        c.same("where edges meet", Checks.touchesOf(x, 3, 4), "1 0 2 2");
    }

    // What a touch does is told by the ages when it comes, not by those when its block begins.
    private static void thenAndNotBefore(Checks c) {
        WorstPaths x = Checks.blocks(1, 1);
        x.edge(0, 1);
        Checks.touchAll(x, 0, 1, 2);
        Checks.touchAll(x, 1, 3, 1, 3, 2);
        c.same("there at the beginning", Checks.agesOf(x, 1, 1, 2, 3), "1/1 0/0 -1/-1");
        c.same("and not when it comes, or the other way round", Checks.touchesOf(x, 1, 4), "2 2 1 2");
    }

    private static void withoutAnAnswer(Checks c) {
        WorstPaths x = Checks.blocks(1, 1);
        Checks.edgesAlong(x, 0, 1, 0);
        Checks.touchAll(x, 0, 5);
        Checks.touchAll(x, 1, 5, 6);
        c.noAnswer("round and round", x);
        c.same("block 0", Checks.touchesOf(x, 0, 1), "0");
        c.same("block 1", Checks.touchesOf(x, 1, 2), "1 0");
    }

    private static void notComeTo(Checks c) {
        WorstPaths x = Checks.blocks(1, 1, 1);
        Checks.touchAll(x, 0, 3);
        Checks.touchAll(x, 1, 3, 4);
        Checks.touchAll(x, 2, 3);
        x.edge(1, 0);
        x.edge(1, 1);
        x.edge(2, 1);
        c.same("edges that lead from it, or to it from another such", Checks.touchesOf(x, 1, 2), "-1 -1");
        c.same("no edges to it", Checks.touchesOf(x, 2, 1), "-1");
        c.same("block 0 is always come to", Checks.touchesOf(x, 0, 1), "2");
        x.edge(0, 1);
        c.same("when it is come to", Checks.touchesOf(x, 1, 2), "1 0");
        c.same("the other one is not", Checks.touchesOf(x, 2, 1), "-1");
    }

    private static void noSuchBlock(Checks c) {
        WorstPaths x = Checks.blocks(1, 1);
        Checks.touchAll(x, 0, 3);
        Checks.touchAll(x, 1, 3);
        int[] wrong = {-1, 2, 39, 40, Integer.MIN_VALUE, Integer.MAX_VALUE};
        for (int b : wrong) {
            c.index("touches(" + b + ", 0)", () -> x.touches(b, 0));
        }
    }

    private static void noSuchTouch(Checks c) {
        WorstPaths x = Checks.blocks(1, 1, 1);
        x.edge(0, 1);
        c.index("a block without touches", () -> x.touches(0, 0));
        Checks.touchAll(x, 0, 3);
        Checks.touchAll(x, 1, 1, 2, 3, 4, 5, 6);
        Checks.touchAll(x, 2, 1, 2);
        int[] wrong = {-1, -6, 6, 7, Integer.MIN_VALUE, Integer.MAX_VALUE};
        for (int i : wrong) {
            c.index("touches(0, " + i + ")", () -> x.touches(0, i));
            c.index("touches(1, " + i + ")", () -> x.touches(1, i));
            c.index("not come to: touches(2, " + i + ")", () -> x.touches(2, i));
        }
        c.index("one behind the last of one", () -> x.touches(0, 1));
        c.is("the last of six", 2, () -> x.touches(1, 5));
        c.index("not come to, one behind the last", () -> x.touches(2, 2));
        c.is("not come to, the last", -1, () -> x.touches(2, 1));
    }
}
