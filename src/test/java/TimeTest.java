/** Promise 12. */
public final class TimeTest {
    public static void main(String[] args) {
        Checks c = new Checks();
        c.test("A block's GREATEST TIME is its time, and PENALTY cycles more for each of its "
                + "touches that does not surely hit",
                TimeTest::greatestTime);
        c.test("its LEAST TIME its time, and PENALTY more for each that surely misses.",
                TimeTest::leastTime);
        c.test("its time alone, when it is not come to", TimeTest::notComeTo);
        c.test("A block's greatest (what 0) or least time (1)", TimeTest::penaltyAtItsEdges);
        c.test("IndexOutOfBoundsException, when there is no such block or what.",
                TimeTest::noSuchBlock);
        c.test("IndexOutOfBoundsException, when there is no such block or what.", TimeTest::noSuchWhat);
        c.end();
    }

    /** Block 1 hits, has two open touches, and hits twice: 5 cycles of its own, penalty 10. */
    private static WorstPaths allKinds() {
        WorstPaths x = Checks.blocksIn(new WorstPaths(0, 4, 10), 3, 5);
        x.edge(0, 1);
        x.edge(1, 1);
        Checks.touchAll(x, 0, 1);
        Checks.touchAll(x, 1, 1, 2, 3, 1, 2);
        return x;
    }

    private static void greatestTime(Checks c) {
        WorstPaths x = allKinds();
        c.same("its touches", Checks.touchesOf(x, 1, 5), "1 0 0 1 1");
        c.is("two that do not surely hit", 25, () -> x.time(1, 0));
        x.touch(1, 9);
        c.is("three", 35, () -> x.time(1, 0));
        c.is("a miss", 13, () -> x.time(0, 0));
        WorstPaths y = Checks.blocks(7);
        c.is("without touches", 7, () -> y.time(0, 0));
        Checks.touchAll(y, 0, 1, 1, 1);
        c.is("hits cost nothing", 17, () -> y.time(0, 0));
    }

    private static void leastTime(Checks c) {
        WorstPaths x = allKinds();
        c.is("none that surely misses", 5, () -> x.time(1, 1));
        c.is("a miss", 13, () -> x.time(0, 1));
        WorstPaths y = Checks.blocks(7);
        c.is("without touches", 7, () -> y.time(0, 1));
        Checks.touchAll(y, 0, 1, 2, 3, 1);
        c.is("four that surely miss", 47, () -> y.time(0, 1));
        y.touch(0, 1);
        c.is("a hit costs nothing", 47, () -> y.time(0, 1));
    }

    private static void notComeTo(Checks c) {
        WorstPaths x = Checks.blocks(3, 5);
        Checks.touchAll(x, 1, 1, 8, 2);
        c.is("greatest", 5, () -> x.time(1, 0));
        c.is("least", 5, () -> x.time(1, 1));
        x.edge(1, 0);
        x.edge(1, 1);
        c.is("greatest, with edges from it", 5, () -> x.time(1, 0));
        c.is("least, with edges from it", 5, () -> x.time(1, 1));
        x.edge(0, 1);
        c.is("greatest, come to", 35, () -> x.time(1, 0));
        c.is("least, come to", 35, () -> x.time(1, 1));
    }

    private static void penaltyAtItsEdges(Checks c) {
        WorstPaths x = Checks.blocksIn(new WorstPaths(0, 1, 999), 100000);
        Checks.touchAll(x, 0, 1, 2, 3, 4, 5, 6);
        c.is("the greatest of all", 105994, () -> x.time(0, 0));
        c.is("the same for sure", 105994, () -> x.time(0, 1));
        WorstPaths z = Checks.blocksIn(new WorstPaths(0, 4, 999), 100000);
        Checks.touchAll(z, 0, 1, 2, 3, 4, 1, 2);
        z.edge(0, 0);
        c.is("four open touches, greatest", 103996, () -> z.time(0, 0));
        c.is("four open touches, least", 100000, () -> z.time(0, 1));
        WorstPaths y = Checks.blocksIn(new WorstPaths(0, 1, 1000), 0);
        Checks.touchAll(y, 0, 1, 2, 3, 4, 5, 6);
        c.is("a penalty of 0", 0, () -> y.time(0, 0));
        c.is("a penalty of 0, least", 0, () -> y.time(0, 1));
    }

    private static void noSuchBlock(Checks c) {
        WorstPaths none = new WorstPaths(0, 1, 0);
        c.index("without blocks", () -> none.time(0, 0));
        WorstPaths x = Checks.blocks(3, 5);
        int[] wrong = {-1, 2, 39, 40, Integer.MIN_VALUE, Integer.MAX_VALUE};
        for (int b : wrong) {
            c.index("time(" + b + ", 0)", () -> x.time(b, 0));
            c.index("time(" + b + ", 1)", () -> x.time(b, 1));
        }
        c.is("the last block", 5, () -> x.time(1, 0));
    }

    private static void noSuchWhat(Checks c) {
        WorstPaths x = Checks.blocks(3, 5);
        int[] wrong = {-1, 2, 3, Integer.MIN_VALUE, Integer.MAX_VALUE};
        for (int what : wrong) {
            c.index("time(0, " + what + ")", () -> x.time(0, what));
            c.index("not come to, " + what, () -> x.time(1, what));
            c.index("no block either, " + what, () -> x.time(2, what));
        }
    }
}
