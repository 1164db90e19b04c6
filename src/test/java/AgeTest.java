/** Promise 11; CacheTest has how ages come and go. */
public final class AgeTest {
    public static void main(String[] args) {
        Checks c = new Checks();
        c.test("when a block begins", AgeTest::whenABlockBegins);
        c.test("A line's greatest (what 0) or least age (1)", AgeTest::greatestOrLeast);
        c.test("NONE, when it has none", AgeTest::hasNone);
        c.test("or the block is not come to", AgeTest::notComeTo);
        c.test("IndexOutOfBoundsException, when there is no such block or what.", AgeTest::noSuchBlock);
        c.test("IndexOutOfBoundsException, when there is no such block or what.", AgeTest::noSuchWhat);
        c.end();
    }

    private static void whenABlockBegins(Checks c) {
        WorstPaths x = Checks.blocks(1, 1, 1);
        Checks.edgesAlong(x, 0, 1, 2);
        x.touch(1, 5);
        c.same("not what it touches itself", Checks.agesOf(x, 1, 5), "-1/-1");
        c.same("what the one before touches", Checks.agesOf(x, 2, 5), "0/0");
        x.touch(0, 6);
        c.same("first", Checks.agesOf(x, 0, 5, 6), "-1/-1 -1/-1");
        c.same("then", Checks.agesOf(x, 1, 5, 6), "-1/-1 0/0");
        c.same("at last", Checks.agesOf(x, 2, 5, 6), "0/0 1/1");
    }

    private static void greatestOrLeast(Checks c) {
        WorstPaths x = Checks.blocksIn(new WorstPaths(0, 4, 1), 1, 1, 1);
        x.edge(0, 1);
        x.edge(0, 2);
        x.edge(1, 2);
        Checks.touchAll(x, 0, 1);
        Checks.touchAll(x, 1, 2, 3, 4);
        c.is("greatest", 3, () -> x.age(2, 1, 0));
        c.is("least", 0, () -> x.age(2, 1, 1));
        c.is("not surely there", -1, () -> x.age(2, 2, 0));
        c.is("may be there", 2, () -> x.age(2, 2, 1));
    }

    private static void hasNone(Checks c) {
        WorstPaths x = Checks.blocks(1, 1);
        x.edge(0, 1);
        c.same("no line at all", Checks.agesOf(x, 0, 0, 5), "-1/-1 -1/-1");
        Checks.touchAll(x, 0, 5, 6, 7);
        x.touch(1, 8);
        c.same("the cache is empty at first", Checks.agesOf(x, 0, 5, 6, 7, 8), "-1/-1 -1/-1 -1/-1 -1/-1");
        c.same("put out, or never touched before", Checks.agesOf(x, 1, 5, 8), "-1/-1 -1/-1");
        c.same("lines that nobody touches", Checks.agesOf(x, 1, 0, -1, 4, 9, Integer.MIN_VALUE,
                Integer.MAX_VALUE), "-1/-1 -1/-1 -1/-1 -1/-1 -1/-1 -1/-1");
        c.same("those that are there", Checks.agesOf(x, 1, 6, 7), "1/1 0/0");
        c.is("to ask makes no line", 4, () -> x.count(3));
    }

    private static void notComeTo(Checks c) {
        WorstPaths x = Checks.blocks(1, 1, 1);
        Checks.touchAll(x, 0, 5);
        Checks.touchAll(x, 1, 6);
        Checks.edgesAlong(x, 1, 2, 2);
        x.edge(2, 0);
        c.same("no edge to it", Checks.agesOf(x, 1, 5, 6), "-1/-1 -1/-1");
        c.same("edges from such blocks alone", Checks.agesOf(x, 2, 5, 6), "-1/-1 -1/-1");
        x.edge(0, 1);
        c.same("when it is come to", Checks.agesOf(x, 1, 5, 6), "0/0 -1/1");
        c.same("and from it on", Checks.agesOf(x, 2, 5, 6), "1/1 0/0");
    }

    private static void noSuchBlock(Checks c) {
        WorstPaths none = new WorstPaths(0, 1, 0);
        c.index("without blocks", () -> none.age(0, 0, 0));
        WorstPaths x = Checks.blocks(1, 1);
        x.touch(0, 5);
        int[] wrong = {-1, 2, 39, 40, Integer.MIN_VALUE, Integer.MAX_VALUE};
        for (int b : wrong) {
            c.index("age(" + b + ", 5, 0)", () -> x.age(b, 5, 0));
            c.index("age(" + b + ", 5, 1)", () -> x.age(b, 5, 1));
            c.index("age(" + b + ", 6, 1)", () -> x.age(b, 6, 1));
        }
        c.is("the last block", -1, () -> x.age(1, 5, 0));
    }

    private static void noSuchWhat(Checks c) {
        WorstPaths x = Checks.blocks(1, 1);
        x.touch(0, 5);
        int[] wrong = {-1, 2, 3, Integer.MIN_VALUE, Integer.MAX_VALUE};
        for (int what : wrong) {
            c.index("age(0, 5, " + what + ")", () -> x.age(0, 5, what));
            c.index("a line that nobody touches, " + what, () -> x.age(0, 6, what));
            c.index("not come to, " + what, () -> x.age(1, 5, what));
            c.index("no block either, " + what, () -> x.age(2, 5, what));
        }
    }
}
