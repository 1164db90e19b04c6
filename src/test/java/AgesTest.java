/** The terms of greatest and least ages: a touch, where edges meet, until nothing changes. */
public final class AgesTest {
    public static void main(String[] args) {
        Checks c = new Checks();
        c.test("lines of its set with a greatest age below its own (W, if it is not surely there) "
                + "get one older",
                AgesTest::greatestBelowItsOwn);
        c.test("(W, if it is not surely there)", AgesTest::greatestNotSurelyThere);
        c.test("those that get W are not surely there", AgesTest::greatestThatGetW);
        c.test("it gets age 0", AgesTest::greatestOfItGetsZero);
        c.test("the lines that are there by all of them, with the greatest of their ages",
                AgesTest::greatestWhereEdgesMeet);
        c.test("for block 0 the beginning, too, where nothing is there", AgesTest::greatestInBlockZero);
        c.test("lines of its set with a least age not above its own (W, if it can not be there), "
                + "other than it, get one older",
                AgesTest::leastNotAboveItsOwn);
        c.test("(W, if it can not be there)", AgesTest::leastCanNotBeThere);
        c.test("those that get W can not be there", AgesTest::leastThatGetW);
        c.test("those that get W can not be there; it gets 0", AgesTest::leastOfItGetsZero);
        c.test("the lines that may be there by any of them, with the least of their ages",
                AgesTest::leastWhereEdgesMeet);
        c.test("lines of its set", AgesTest::otherSets);
        c.test("beginning with nothing known of all blocks but 0", AgesTest::nothingKnownAtFirst);
        c.test("(blocks that no edge leads to, from block 0 on, do not count)",
                AgesTest::blocksThatDoNotCount);
        c.test("joined again and again along edges (bounds and pairs do not matter)",
                AgesTest::boundsAndPairsDoNotMatter);
        c.test("until nothing changes", AgesTest::untilNothingChanges);
        c.test("until nothing changes", AgesTest::roundAllBlocks);
        c.test("A block that is not come to has neither.", AgesTest::neither);
        c.end();
    }

    /** Only what is asked for: greatest (0) or least ages (1) of lines where a block begins. */
    private static String ages(WorstPaths x, int what, int block, int... lines) {
        StringBuilder text = new StringBuilder();
        for (int line : lines) {
            String one = Checks.outcome(() -> x.age(block, line, what));
            text.append(text.length() == 0 ? "" : " ").append(one);
        }
        return text.toString();
    }

    /** Block 0 touches these lines and leads to block 1: one set of four lines. */
    private static WorstPaths row(int ways, int... lines) {
        WorstPaths x = Checks.blocksIn(new WorstPaths(0, ways, 1), 0, 0);
        x.edge(0, 1);
        Checks.touchAll(x, 0, lines);
        return x;
    }

    /** Blocks 1 and 2 lead from block 0 to block 3, and that to block 4: one set of four lines. */
    private static WorstPaths fork() {
        WorstPaths x = Checks.blocksIn(new WorstPaths(0, 4, 1), 0, 0, 0, 0, 0);
        Checks.edgesAlong(x, 0, 1, 3, 4);
        Checks.edgesAlong(x, 0, 2, 3);
        return x;
    }

    private static void greatestBelowItsOwn(Checks c) {
        c.same("all are younger", ages(row(4, 1, 2, 3, 1), 0, 1, 1, 2, 3), "0 2 1");
        c.same("one is older", ages(row(4, 1, 2, 3, 2), 0, 1, 1, 2, 3), "2 0 1");
        c.same("all are older", ages(row(4, 1, 2, 3, 3), 0, 1, 1, 2, 3), "2 1 0");
        WorstPaths x = fork();
        Checks.touchAll(x, 1, 1, 2);
        Checks.touchAll(x, 2, 2, 1);
        c.same("both have one age", ages(x, 0, 3, 1, 2), "1 1");
        x.touch(3, 1);
        c.same("the one of the same age gets no older", ages(x, 0, 4, 1, 2), "0 1");
    }

    private static void greatestNotSurelyThere(Checks c) {
        c.same("a new line", ages(row(4, 1, 2, 3, 4), 0, 1, 1, 2, 3, 4), "3 2 1 0");
        WorstPaths x = fork();
        Checks.touchAll(x, 0, 8, 9);
        Checks.touchAll(x, 1, 5);
        c.same("it may be there", Checks.agesOf(x, 3, 5, 8, 9), "-1/0 2/1 1/0");
        x.touch(3, 5);
        c.same("all get older, also those that are older", ages(x, 0, 4, 5, 8, 9), "0 3 2");
    }

    private static void greatestThatGetW(Checks c) {
        c.same("one line", ages(row(1, 1, 2), 0, 1, 1, 2), "-1 0");
        c.same("two lines", ages(row(2, 1, 2, 3), 0, 1, 1, 2, 3), "-1 1 0");
        c.same("three lines", ages(row(3, 1, 2, 3, 4), 0, 1, 1, 2, 3, 4), "-1 2 1 0");
        c.same("four lines", ages(row(4, 1, 2, 3, 4, 5), 0, 1, 1, 2, 3, 4, 5), "-1 3 2 1 0");
        c.same("none by a line that is there", ages(row(4, 1, 2, 3, 4, 1), 0, 1, 1, 2, 3, 4), "0 3 2 1");
    }

    private static void greatestOfItGetsZero(Checks c) {
        c.same("a new one", ages(row(4, 1), 0, 1, 1), "0");
        c.same("again", ages(row(4, 1, 1, 1), 0, 1, 1), "0");
        c.same("the oldest one", ages(row(4, 1, 2, 3, 4, 1), 0, 1, 1), "0");
        c.same("one that is no more there", ages(row(1, 1, 2, 1), 0, 1, 1), "0");
    }

    private static void greatestWhereEdgesMeet(Checks c) {
        WorstPaths x = fork();
        Checks.touchAll(x, 1, 1, 2, 3);
        Checks.touchAll(x, 2, 2, 1);
        c.same("two edges", ages(x, 0, 3, 1, 2, 3), "2 1 -1");
        x.edge(0, 3);
        c.same("three, one of them with nothing", ages(x, 0, 3, 1, 2, 3), "-1 -1 -1");
        Checks.touchAll(x, 0, 2);
        c.same("with one line", ages(x, 0, 3, 1, 2, 3), "-1 1 -1");
        WorstPaths y = Checks.blocksIn(new WorstPaths(0, 4, 1), 0, 0);
        y.edge(0, 1);
        y.edge(0, 1);
        Checks.touchAll(y, 0, 1, 2);
        c.same("two from one block", ages(y, 0, 1, 1, 2), "1 0");
        y.edge(1, 1);
        c.same("and one from the block itself", ages(y, 0, 1, 1, 2), "1 0");
        y.touch(1, 1);
        c.same("which touches a line", ages(y, 0, 1, 1, 2), "1 1");
    }

    private static void greatestInBlockZero(Checks c) {
        WorstPaths x = Checks.blocksIn(new WorstPaths(0, 4, 1), 0, 0);
        x.edge(0, 0);
        x.touch(0, 1);
        c.same("nothing is surely there", ages(x, 0, 0, 1), "-1");
        c.same("and yet it may be", ages(x, 1, 0, 1), "0");
        c.is("so it is open", 0, () -> x.touches(0, 0));
        x.edge(0, 1);
        x.edge(1, 0);
        x.touch(1, 1);
        c.same("nor by two edges", ages(x, 0, 0, 1), "-1");
        c.same("behind it, it is", ages(x, 0, 1, 1), "0");
    }

    private static void leastNotAboveItsOwn(Checks c) {
        c.same("all are younger", ages(row(4, 1, 2, 3, 1), 1, 1, 1, 2, 3), "0 2 1");
        c.same("one is older", ages(row(4, 1, 2, 3, 2), 1, 1, 1, 2, 3), "2 0 1");
        c.same("all are older", ages(row(4, 1, 2, 3, 3), 1, 1, 1, 2, 3), "2 1 0");
        WorstPaths x = fork();
        Checks.touchAll(x, 1, 1, 2);
        Checks.touchAll(x, 2, 2, 1);
        c.same("both have one age", ages(x, 1, 3, 1, 2), "0 0");
        x.touch(3, 1);
        c.same("the one of the same age gets older", ages(x, 1, 4, 1, 2), "0 1");
        x.touch(3, 1);
        c.same("once alone", ages(x, 1, 4, 1, 2), "0 1");
    }

    private static void leastCanNotBeThere(Checks c) {
        c.same("a new line", ages(row(4, 1, 2, 3, 4), 1, 1, 1, 2, 3, 4), "3 2 1 0");
        WorstPaths x = fork();
        Checks.touchAll(x, 0, 8, 9);
        Checks.touchAll(x, 1, 5);
        c.same("it may be there, at age 0", Checks.agesOf(x, 3, 5, 8, 9), "-1/0 2/1 1/0");
        x.touch(3, 5);
        c.same("those that are older get no older", ages(x, 1, 4, 5, 8, 9), "0 1 1");
        x.touch(3, 6);
        c.same("a new line: all get older", ages(x, 1, 4, 5, 6, 8, 9), "1 0 2 2");
    }

    private static void leastThatGetW(Checks c) {
        c.same("one line", ages(row(1, 1, 2), 1, 1, 1, 2), "-1 0");
        c.same("two lines", ages(row(2, 1, 2, 3), 1, 1, 1, 2, 3), "-1 1 0");
        c.same("three lines", ages(row(3, 1, 2, 3, 4), 1, 1, 1, 2, 3, 4), "-1 2 1 0");
        c.same("four lines", ages(row(4, 1, 2, 3, 4, 5), 1, 1, 1, 2, 3, 4, 5), "-1 3 2 1 0");
        c.same("none by a line that is there", ages(row(4, 1, 2, 3, 4, 1), 1, 1, 1, 2, 3, 4), "0 3 2 1");
        WorstPaths x = row(2, 1, 2, 3);
        x.touch(1, 1);
        c.is("it misses", 2, () -> x.touches(1, 0));
        // Lines of one least age put each other out: both of them go with the third new line.
        WorstPaths y = Checks.blocksIn(new WorstPaths(0, 1, 1), 0, 0, 0, 0, 0);
        Checks.edgesAlong(y, 0, 1, 3, 4);
        Checks.edgesAlong(y, 0, 2, 3);
        y.touch(1, 1);
        y.touch(2, 2);
        c.same("two may be there", ages(y, 1, 3, 1, 2), "0 0");
        y.touch(3, 1);
        c.same("a touch of one puts out the other", ages(y, 1, 4, 1, 2), "0 -1");
    }

    private static void leastOfItGetsZero(Checks c) {
        c.same("a new one", ages(row(4, 1), 1, 1, 1), "0");
        c.same("again", ages(row(4, 1, 1, 1), 1, 1, 1), "0");
        c.same("the oldest one", ages(row(4, 1, 2, 3, 4, 1), 1, 1, 1), "0");
        c.same("one that is no more there", ages(row(1, 1, 2, 1), 1, 1, 1), "0");
    }

    private static void leastWhereEdgesMeet(Checks c) {
        WorstPaths x = fork();
        Checks.touchAll(x, 1, 1, 2, 3);
        Checks.touchAll(x, 2, 2, 1);
        c.same("two edges", ages(x, 1, 3, 1, 2, 3), "0 1 0");
        x.edge(0, 3);
        c.same("three, one of them with nothing", ages(x, 1, 3, 1, 2, 3), "0 1 0");
        x.touch(0, 2);
        c.same("with one line", ages(x, 1, 3, 1, 2, 3), "0 0 0");
        WorstPaths y = Checks.blocksIn(new WorstPaths(0, 4, 1), 0, 0);
        y.edge(0, 1);
        y.edge(1, 0);
        y.touch(1, 5);
        c.same("in block 0 by the edge back", ages(y, 1, 0, 5), "0");
        y.touch(0, 6);
        c.same("behind a touch", ages(y, 1, 1, 5, 6), "1 0");
    }

    private static void otherSets(Checks c) {
        WorstPaths x = Checks.blocksIn(new WorstPaths(1, 2, 1), 0, 0);
        x.edge(0, 1);
        Checks.touchAll(x, 0, 0, 2, 1, 3);
        c.same("no line of the other set gets older", Checks.agesOf(x, 1, 0, 2, 1, 3), "1/1 0/0 1/1 0/0");
        x.touch(0, 5);
        c.same("a third one puts out one of its own", Checks.agesOf(x, 1, 0, 2, 1, 3, 5),
                "1/1 0/0 -1/-1 1/1 0/0");
        WorstPaths y = Checks.blocksIn(new WorstPaths(2, 1, 1), 0, 0);
        y.edge(0, 1);
        Checks.touchAll(y, 0, -1, -2, -3, -4, 2);
        c.same("four sets", Checks.agesOf(y, 1, -1, -2, -3, -4, 2), "0/0 -1/-1 0/0 0/0 0/0");
    }

    // Were nothing there at first, instead of nothing known, a loop would put out all for sure.
    private static void nothingKnownAtFirst(Checks c) {
        WorstPaths x = Checks.blocksIn(new WorstPaths(0, 2, 1), 0, 0, 0, 0);
        Checks.edgesAlong(x, 0, 3, 2, 1, 3);
        x.touch(0, 1);
        for (int b = 1; b < 4; b++) {
            c.same("round blocks without touches, block " + b, Checks.agesOf(x, b, 1), "0/0");
        }
        x.touch(2, 1);
        c.same("a loop that touches it, too", Checks.agesOf(x, 3, 1), "0/0");
        x.touch(1, 2);
        c.same("and another one", Checks.agesOf(x, 3, 1, 2), "1/0 -1/0");
        c.same("behind the touch", Checks.agesOf(x, 1, 1, 2), "0/0 -1/1");
    }

    private static void blocksThatDoNotCount(Checks c) {
        WorstPaths x = Checks.blocks(1, 1, 1, 1);
        x.edge(0, 1);
        x.edge(2, 1);
        x.edge(3, 2);
        x.edge(3, 0);
        x.touch(0, 1);
        x.touch(2, 7);
        x.touch(3, 8);
        c.same("by an edge from such a block", Checks.agesOf(x, 1, 1, 7, 8), "0/0 -1/-1 -1/-1");
        c.same("block 0, too", Checks.agesOf(x, 0, 1, 7, 8), "-1/-1 -1/-1 -1/-1");
        x.edge(2, 3);
        c.same("such blocks round", Checks.agesOf(x, 1, 1, 7, 8), "0/0 -1/-1 -1/-1");
        x.edge(0, 2);
        c.same("when one comes there they do", Checks.agesOf(x, 1, 1, 7, 8), "-1/0 -1/0 -1/1");
    }

    private static void boundsAndPairsDoNotMatter(Checks c) {
        WorstPaths x = fork();
        Checks.touchAll(x, 1, 1, 2);
        Checks.touchAll(x, 2, 3);
        String due = "-1/1 -1/0 -1/0";
        c.same("without any", Checks.agesOf(x, 3, 1, 2, 3), due);
        for (int e = 0; e < 5; e++) {
            x.bound(e, 0);
            c.same("bound 0 at edges up to " + e, Checks.agesOf(x, 3, 1, 2, 3), due);
        }
        x.pair(0, 1);
        x.pair(3, 4);
        x.pair(1, 2);
        c.same("pairs", Checks.agesOf(x, 3, 1, 2, 3), due);
        c.is("all blocks are come to", 5, () -> x.count(4));
        x.edge(4, 1);
        x.bound(5, 0);
        c.same("an edge back that is never taken", Checks.agesOf(x, 1, 1, 2, 3), "-1/1 -1/0 -1/0");
    }

    // Each round makes line 1 one older, until it is not surely there.
    private static void untilNothingChanges(Checks c) {
        for (int ways = 1; ways <= 4; ways++) {
            WorstPaths x = Checks.blocksIn(new WorstPaths(0, ways, 1), 0, 0, 0);
            Checks.edgesAlong(x, 0, 1, 1);
            x.edge(1, 2);
            x.touch(0, 1);
            x.touch(1, 2);
            c.same("in the loop, ways " + ways, Checks.agesOf(x, 1, 1, 2), "-1/0 -1/0");
            c.same("behind it, ways " + ways, Checks.agesOf(x, 2, 1, 2), ways == 1 ? "-1/-1 0/0" : "-1/1 0/0");
        }
        // Here the loop touches a line that is surely there: line 1 gets no older than 1.
        WorstPaths y = Checks.blocksIn(new WorstPaths(0, 4, 1), 0, 0);
        Checks.edgesAlong(y, 0, 1, 1);
        Checks.touchAll(y, 0, 2, 1);
        y.touch(1, 2);
        c.same("to an end before that", Checks.agesOf(y, 1, 1, 2), "1/0 1/0");
    }

    // Forty blocks in a ring, whichever way they are numbered: what changes goes round them twice.
    private static void roundAllBlocks(Checks c) {
        for (int turn = 0; turn < 2; turn++) {
            WorstPaths x = Checks.blocksIn(new WorstPaths(0, 2, 1), new int[40]);
            int first = turn == 0 ? 1 : 39;
            int step = turn == 0 ? 1 : -1;
            x.edge(0, first);
            for (int i = 0; i < 38; i++) {
                x.edge(first + i * step, first + (i + 1) * step);
            }
            int last = first + 38 * step;
            x.edge(last, first);
            x.touch(0, 7);
            c.same("no touch in the ring", Checks.agesOf(x, last, 7), "0/0");
            x.touch(last, 8);
            c.same("one in its last block", Checks.agesOf(x, last, 7, 8), "-1/0 -1/0");
            c.same("the same in its first block", Checks.agesOf(x, first, 7, 8), "-1/0 -1/0");
            c.is("all are come to", 40, () -> x.count(4));
            x.touch(first, 7);
            c.same("and one in its first block", Checks.agesOf(x, first, 7, 8), "1/0 -1/0");
            c.same("as its last block has it", Checks.agesOf(x, last, 7, 8), "0/0 -1/1");
        }
    }

    private static void neither(Checks c) {
        WorstPaths x = Checks.blocks(1, 1, 1);
        x.touch(0, 1);
        x.touch(2, 7);
        x.edge(2, 1);
        c.same("no edge to it", Checks.agesOf(x, 2, 1, 7), "-1/-1 -1/-1");
        c.same("an edge from such a block", Checks.agesOf(x, 1, 1, 7), "-1/-1 -1/-1");
        x.edge(2, 2);
        c.same("one from itself", Checks.agesOf(x, 2, 1, 7), "-1/-1 -1/-1");
        x.edge(0, 2);
        c.same("come to", Checks.agesOf(x, 2, 1, 7), "-1/0 -1/0");
        c.same("and from it on", Checks.agesOf(x, 1, 1, 7), "-1/1 0/0");
    }
}
