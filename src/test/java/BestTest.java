/** Promise 8; NoAnswerTest has what it throws. */
public final class BestTest {
    public static void main(String[] args) {
        Checks c = new Checks();
        c.test("The least time that a way has, by least times.", BestTest::byLeastTimes);
        c.test("The least time that a way has, by least times.", BestTest::notRound);
        c.test("UnsupportedOperationException, when there is no answer.", BestTest::noAnswer);
        c.end();
    }

    private static void byLeastTimes(Checks c) {
        WorstPaths x = Checks.blocks(5);
        c.is("one block", 5, x::best);
        Checks.touchAll(x, 0, 1, 2, 1);
        c.is("two misses and a hit", 25, x::best);
        x.block(4);
        x.block(3);
        x.edge(0, 1);
        x.edge(0, 2);
        c.is("the shorter end", 28, x::best);
        x.touch(2, 3);
        c.is("a miss makes it longer", 29, x::best);
        x.edge(1, 2);
        c.is("one end alone", 38, x::best);
        x.touch(1, 3);
        c.is("an open touch does not count", 28, x::best);
        c.is("but does for the greatest time", 52, x::worst);
    }

    private static void notRound(Checks c) {
        WorstPaths x = Checks.blocks(1, 2, 4);
        x.edge(0, 0);
        x.edge(0, 1);
        x.edge(1, 2);
        x.edge(1, 0);
        x.bound(0, 5);
        x.bound(3, 2);
        c.is("rounds are left out", 7, x::best);
        x.edge(0, 2);
        x.pair(1, 2);
        c.is("at once", 5, x::best);
        x.bound(4, 0);
        c.unsupported("no way", x::best);
        WorstPaths y = Checks.blocks(0);
        c.is("the least of all", 0, y::best);
    }

    private static void noAnswer(Checks c) {
        WorstPaths x = new WorstPaths(0, 1, 0);
        c.unsupported("no block", x::best);
        x.block(1);
        c.is("a block", 1, x::best);
        x.edge(0, 0);
        c.unsupported("round without a bound", x::best);
        x.bound(0, 1);
        c.unsupported("no end", x::best);
        x.block(2);
        x.edge(0, 1);
        c.is("an end", 3, x::best);
        for (int e = 2; e < 5; e++) {
            x.edge(0, 0);
            x.bound(e, 15);
        }
        c.is("16384 states", 3, x::best);
        x.bound(0, 15);
        c.unsupported("131072 states", x::best);
        x.bound(0, 3);
        c.is("32768 states", 3, x::best);
    }
}
