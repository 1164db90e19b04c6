/** Promise 7; NoAnswerTest has what it throws. */
public final class WorstTest {
    public static void main(String[] args) {
        Checks c = new Checks();
        c.test("The greatest time that a way has, by greatest times.", WorstTest::byGreatestTimes);
        c.test("A way's time is that of its blocks, each as often as it is come to.",
                WorstTest::asOftenAsItIsComeTo);
        c.test("UnsupportedOperationException, when there is no answer.", WorstTest::noAnswer);
        c.test("The greatest time that a way has, by greatest times.", WorstTest::longWay);
        c.end();
    }

    private static void byGreatestTimes(Checks c) {
        WorstPaths x = Checks.blocks(5);
        c.is("one block", 5, x::worst);
        Checks.touchAll(x, 0, 1, 2, 1);
        c.is("two misses and a hit", 25, x::worst);
        x.block(1);
        x.block(2);
        x.edge(0, 1);
        x.edge(0, 2);
        c.is("the longer end", 27, x::worst);
        x.touch(1, 3);
        c.is("a miss makes the other longer", 36, x::worst);
        x.edge(1, 2);
        c.is("one end alone", 38, x::worst);
        Checks.touchAll(x, 2, 3, 9);
        c.is("an open touch counts", 58, x::worst);
        c.is("and not for the least time", 37, x::best);
    }

    private static void asOftenAsItIsComeTo(Checks c) {
        WorstPaths x = Checks.blocks(1000, 100, 10, 1);
        Checks.edgesAlong(x, 0, 1, 2, 3);
        c.is("each once", 1111, x::worst);
        x.edge(2, 1);
        x.bound(3, 4);
        c.is("two of them five times", 1551, x::worst);
        x.edge(1, 1);
        x.bound(4, 2);
        c.is("one of them seven times", 1751, x::worst);
        x.bound(4, 0);
        x.edge(2, 0);
        x.bound(5, 2);
        c.is("the first thrice", 3771, x::worst);
    }

    private static void noAnswer(Checks c) {
        WorstPaths x = new WorstPaths(0, 1, 0);
        c.unsupported("no block", x::worst);
        x.block(1);
        c.is("a block", 1, x::worst);
        x.edge(0, 0);
        c.unsupported("round without a bound", x::worst);
        x.bound(0, 1);
        c.unsupported("no end", x::worst);
        x.block(2);
        x.edge(0, 1);
        c.is("an end", 4, x::worst);
    }

    // Forty blocks in a row, 32 times back from the last but one by bounds 15, 15 and 2.
    private static void longWay(Checks c) {
        WorstPaths x = new WorstPaths(0, 1, 999);
        for (int b = 0; b < 40; b++) {
            x.block(100000);
            Checks.touchAll(x, b, 1, 2, 1, 2, 1, 2);
        }
        for (int b = 0; b + 1 < 40; b++) {
            x.edge(b, b + 1);
        }
        int[] bounds = {15, 15, 2};
        for (int i = 0; i < bounds.length; i++) {
            x.edge(38, 0);
            x.bound(39 + i, bounds[i]);
        }
        c.is("a long way", (33L * 39 + 1) * 105994, x::worst);
        c.is("the short one", 40L * 105994, x::best);
        c.is("its last edge", 38, () -> x.way(0, 33 * 39 - 1));
        c.is("behind it", -1, () -> x.way(0, 33 * 39));
    }
}
