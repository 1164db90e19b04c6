/** When there is no answer: of each reason, the last case that has one and the first that has none. */
public final class NoAnswerTest {
    public static void main(String[] args) {
        Checks c = new Checks();
        c.test("NO ANSWER is there, when no way ends", NoAnswerTest::noWayEnds);
        c.test("when no way ends", NoAnswerTest::boundsAreTooLow);
        c.test("or edges without a bound go round somewhere where one comes from block 0",
                NoAnswerTest::goingRound);
        c.test("somewhere where one comes from block 0", NoAnswerTest::whereOneComes);
        c.test("(bounds and pairs do not matter for that)", NoAnswerTest::boundsAndPairsDoNotMatter);
        c.test("edges without a bound go round", NoAnswerTest::withABound);
        c.test("multiplied, is above 40000", NoAnswerTest::fortyThousand);
        c.test("B times (each bound and 1)", NoAnswerTest::eachBoundAndOne);
        c.test("times 2 for each edge of a pair", NoAnswerTest::edgesOfPairs);
        c.test("(edges in several pairs once)", NoAnswerTest::edgesInSeveralPairs);
        c.test("B the number of blocks", NoAnswerTest::numberOfBlocks);
        c.test("multiplied, is above 40000", NoAnswerTest::aboveAllNumbers);
        c.test("UnsupportedOperationException, when there is no answer.", NoAnswerTest::othersAnswer);
        c.end();
    }

    private static void noWayEnds(Checks c) {
        c.noAnswer("no block", new WorstPaths(0, 1, 0));
        WorstPaths x = Checks.blocks(1);
        c.answer("a block", x, 1, "", 1, "");
        x.edge(0, 0);
        x.bound(0, 3);
        c.noAnswer("no end", x);
        x.block(2);
        c.noAnswer("an end where one does not come", x);
        x.edge(0, 1);
        c.answer("where one comes", x, 6, "0 0 0 1", 3, "1");
        x.bound(1, 0);
        c.noAnswer("by an edge that is never taken", x);
        x.bound(1, 1);
        x.pair(0, 1);
        c.answer("by one of a pair", x, 3, "1", 3, "1");
    }

    // Edges lead to an end, and bounds or pairs keep every way from it; or edges lead to none.
    private static void boundsAreTooLow(Checks c) {
        WorstPaths x = Checks.blocks(1, 2, 4);
        x.edge(0, 1);
        x.edge(1, 0);
        x.edge(1, 2);
        x.bound(0, 1);
        c.answer("once is enough", x, 7, "0 2", 7, "0 2");
        x.bound(0, 0);
        c.noAnswer("never is not", x);
        x.bound(0, 1);
        x.pair(2, 0);
        c.noAnswer("a pair forbids the only way", x);
        WorstPaths y = Checks.blocks(1, 1, 1);
        Checks.edgesAlong(y, 0, 1, 2, 0);
        for (int n = 0; n <= 15; n += 5) {
            y.bound(2, n);
            c.noAnswer("no end, bound " + n, y);
        }
    }

    private static void goingRound(Checks c) {
        WorstPaths x = Checks.blocks(1, 2, 4);
        Checks.edgesAlong(x, 0, 1, 2);
        c.answer("not round", x, 7, "0 1", 7, "0 1");
        x.edge(0, 0);
        c.noAnswer("block 0 to itself", x);
        x.bound(2, 0);
        c.answer("with a bound", x, 7, "0 1", 7, "0 1");
        x.edge(1, 0);
        c.noAnswer("back to block 0", x);
        WorstPaths y = Checks.blocks(1, 2, 4, 8);
        Checks.edgesAlong(y, 0, 1, 2);
        y.edge(0, 3);
        c.answer("an end beside", y, 9, "2", 7, "0 1");
        y.edge(2, 1);
        c.noAnswer("two blocks round, though a way ends elsewhere", y);
        WorstPaths z = Checks.blocksIn(new WorstPaths(0, 1, 0), new int[40]);
        z.edge(0, 1);
        for (int b = 2; b < 40; b++) {
            z.edge(b, b == 39 ? 2 : b + 1);
        }
        c.answer("38 blocks round where one does not come", z, 0, "0", 0, "0");
        z.edge(0, 20);
        c.noAnswer("where one comes", z);
        z.bound(5, 1);
        c.answer("with a bound at one edge of the 38", z, 0, "0", 0, "0");
    }

    private static void whereOneComes(Checks c) {
        WorstPaths x = Checks.blocks(1, 2, 4, 8, 16);
        x.edge(0, 1);
        x.edge(1, 4);
        x.edge(2, 3);
        x.edge(3, 2);
        c.answer("round where one does not come", x, 19, "0 1", 19, "0 1");
        x.edge(3, 1);
        x.edge(2, 0);
        c.answer("from where edges lead to where one comes", x, 19, "0 1", 19, "0 1");
        x.edge(2, 2);
        c.answer("a block to itself where one does not come", x, 19, "0 1", 19, "0 1");
        x.edge(1, 2);
        c.noAnswer("round where one comes", x);
    }

    private static void boundsAndPairsDoNotMatter(Checks c) {
        WorstPaths x = Checks.blocks(1, 2, 4);
        x.edge(0, 1);
        x.edge(0, 2);
        x.edge(2, 2);
        c.noAnswer("round where one comes", x);
        x.bound(1, 0);
        c.noAnswer("by an edge that is never taken", x);
        x.bound(1, WorstPaths.NONE);
        x.pair(1, 2);
        c.noAnswer("by a pair one of them alone", x);
        x.bound(2, 0);
        c.answer("with a bound", x, 3, "0", 3, "0");
        WorstPaths y = Checks.blocks(1, 2, 4, 8);
        Checks.edgesAlong(y, 0, 1, 2, 1);
        y.edge(1, 3);
        y.pair(1, 2);
        c.noAnswer("both edges round are a pair", y);
        y.bound(1, 15);
        c.answer("one of them has a bound", y, 11, "0 3", 11, "0 3");
        // The same, with nothing asked before the bound or the pair is told.
        WorstPaths z = Checks.blocks(1, 2, 4);
        z.edge(0, 1);
        z.edge(0, 2);
        z.bound(1, 0);
        z.edge(2, 2);
        c.noAnswer("at first by an edge that is never taken", z);
        WorstPaths w = Checks.blocks(1, 2, 4, 8);
        Checks.edgesAlong(w, 0, 1, 2, 2);
        w.edge(0, 3);
        w.pair(0, 1);
        c.noAnswer("at first by two edges of a pair", w);
    }

    // Three edges go round, an end is beside: one bound at any of them is enough, of 0 or of 15.
    private static void withABound(Checks c) {
        for (int e = 0; e < 3; e++) {
            WorstPaths x = Checks.blocks(0, 0, 0, 5);
            Checks.edgesAlong(x, 0, 1, 2, 0);
            x.edge(0, 3);
            c.noAnswer("none has a bound", x);
            x.bound(e, 15);
            c.is("edge " + e + " has the bound 15", 5, x::worst);
            x.bound(e, 0);
            c.is("edge " + e + " has the bound 0", 5, x::worst);
            x.edge(e, (e + 1) % 3);
            c.noAnswer("one beside edge " + e + " has none", x);
        }
    }

    /** Blocks, the first with loops that have these bounds and with an edge to the second. */
    private static WorstPaths loops(int blocks, int... bounds) {
        int[] times = new int[blocks];
        times[0] = 1;
        WorstPaths x = Checks.blocks(times);
        for (int e = 0; e < bounds.length; e++) {
            x.edge(0, 0);
            x.bound(e, bounds[e]);
        }
        x.edge(0, 1);
        return x;
    }

    private static void fortyThousand(Checks c) {
        c.is("40 * 10 * 10 * 10 = 40000", 28, () -> loops(40, 9, 9, 9).worst());
        c.is("2 * 10 * 10 * 10 * 10 * 2 = 40000", 38, () -> loops(2, 9, 9, 9, 9, 1).worst());
        c.is("4 * 16 * 5 * 5 * 5 * 5 = 40000", 32, () -> loops(4, 15, 4, 4, 4, 4).worst());
        c.is("39 * 16 * 16 * 4 = 39936", 34, () -> loops(39, 15, 15, 3).worst());
        c.noAnswer("38 * 13 * 9 * 9 = 40014, the next one above", loops(38, 12, 8, 8));
        c.noAnswer("40 * 7 * 11 * 13 = 40040", loops(40, 6, 10, 12));
        c.noAnswer("40 * 11 * 10 * 10 = 44000", loops(40, 10, 9, 9));
        WorstPaths x = loops(40, 9, 9, 9);
        c.is("the last edge at 40000", 3, () -> x.way(0, 27));
        c.is("behind it", -1, () -> x.way(0, 28));
        c.is("the least at 40000", 1, x::best);
        c.is("the least way at 40000", 3, () -> x.way(1, 0));
        x.bound(0, 10);
        c.noAnswer("above", x);
        x.bound(0, 9);
        c.is("40000 again", 28, x::worst);
    }

    private static void eachBoundAndOne(Checks c) {
        WorstPaths x = loops(40, 9, 9, 9);
        x.edge(0, 1);
        c.is("an edge without a bound", 28, x::worst);
        x.bound(4, 0);
        c.is("a bound of 0", 28, x::worst);
        x.bound(4, 1);
        c.noAnswer("a bound of 1", x);
        x.bound(4, WorstPaths.NONE);
        c.is("without a bound again", 28, x::worst);
        x.edge(2, 3);
        x.bound(5, 0);
        c.is("a bound of 0 where one does not come", 28, x::worst);
        x.bound(5, 1);
        c.noAnswer("a bound of 1 where one does not come", x);
        x.bound(5, 0);
        x.bound(0, 0);
        x.bound(5, 9);
        c.is("a bound of 9 there, instead of one here", 19, x::worst);
    }

    private static void edgesOfPairs(Checks c) {
        WorstPaths x = loops(40, 9, 9);
        for (int i = 0; i < 6; i++) {
            x.edge(2 + i, 20);
        }
        x.pair(3, 4);
        c.is("4000 * 4 = 16000", 19, x::worst);
        x.pair(5, 6);
        c.noAnswer("4000 * 16 = 64000", x);
        x.bound(0, 4);
        c.is("2000 * 16 = 32000", 14, x::worst);
        x.pair(7, 8);
        c.noAnswer("2000 * 64 = 128000", x);
        x.bound(1, 1);
        c.is("400 * 64 = 25600", 6, x::worst);
        x.bound(1, 2);
        c.is("600 * 64 = 38400", 7, x::worst);
        x.bound(1, 3);
        c.noAnswer("800 * 64 = 51200", x);
        // An edge that has a bound and is in a pair counts by both.
        WorstPaths y = loops(40, 9, 9, 1);
        y.edge(0, 0);
        y.bound(4, 0);
        c.is("8000", 20, y::worst);
        y.pair(2, 4);
        c.is("8000 * 4 = 32000", 20, y::worst);
        y.bound(2, 2);
        c.noAnswer("12000 * 4 = 48000", y);
    }

    private static void edgesInSeveralPairs(Checks c) {
        WorstPaths x = loops(40, 9, 9);
        for (int i = 0; i < 6; i++) {
            x.edge(2 + i, 20);
        }
        x.pair(3, 4);
        x.pair(4, 5);
        c.is("4000 * 8 = 32000", 19, x::worst);
        x.pair(5, 3);
        c.is("three edges, each in two pairs", 19, x::worst);
        x.bound(0, 12);
        c.noAnswer("5200 * 8 = 41600", x);
        WorstPaths y = loops(40, 9, 9);
        y.edge(2, 3);
        y.edge(2, 3);
        y.pair(3, 4);
        y.pair(4, 3);
        y.pair(3, 4);
        c.is("two edges, thrice the same pair: 4000 * 4 = 16000", 19, y::worst);
        y.bound(0, 14);
        c.is("6000 * 4 = 24000", 24, y::worst);
        y.bound(1, 15);
        c.is("9600 * 4 = 38400", 30, y::worst);
        WorstPaths z = loops(40, 9, 4);
        for (int i = 0; i < 6; i++) {
            z.edge(2 + i, 20);
        }
        z.pair(3, 4);
        z.pair(3, 5);
        z.pair(3, 6);
        c.is("one edge in three pairs: 2000 * 16 = 32000", 14, z::worst);
        z.bound(0, 12);
        c.noAnswer("2600 * 16 = 41600", z);
    }

    private static void numberOfBlocks(Checks c) {
        WorstPaths x = loops(4, 15, 4, 4, 4, 4);
        c.is("40000", 32, x::worst);
        x.block(1);
        c.noAnswer("50000, by a block where one does not come", x);
        x.bound(1, 3);
        c.is("40000 with five blocks", 31, x::worst);
        WorstPaths y = Checks.blocks(1);
        c.answer("one block", y, 1, "", 1, "");
    }

    // Products that would be 0 or below it, or small, were they to go round in an int or a long.
    private static void aboveAllNumbers(Checks c) {
        for (int n = 4; n < 80; n++) {
            int[] bounds = new int[n];
            java.util.Arrays.fill(bounds, 15);
            WorstPaths x = loops(2, bounds);
            c.noAnswer("2 * 16 to the power " + n, x);
            for (int e = 3; e < n; e++) {
                x.bound(e, 0);
            }
            c.is("2 * 16 * 16 * 16, and bounds of 0", 46, x::worst);
        }
        int[] fifteens = new int[15];
        java.util.Arrays.fill(fifteens, 15);
        c.noAnswer("8 * 16 to the power 7, the least int", loops(8, 15, 15, 15, 15, 15, 15, 15));
        c.noAnswer("8 * 16 to the power 15, the least long", loops(8, fifteens));
    }

    // Without an answer all that is not asked of ways is told as ever.
    private static void othersAnswer(Checks c) {
        WorstPaths x = Checks.blocks(3, 5);
        Checks.edgesAlong(x, 0, 1, 0);
        x.touch(0, 1);
        x.touch(1, 1);
        c.noAnswer("round", x);
        c.is("touches", 0, () -> x.touches(0, 0));
        c.is("age", 0, () -> x.age(1, 1, 0));
        c.is("time", 13, () -> x.time(0, 0));
        c.is("count", 2, () -> x.count(4));
        c.is("bound", -1, () -> x.bound(1, 1));
        c.is("edge", 2, () -> x.edge(1, 1));
        c.is("block", 2, () -> x.block(7));
        c.is("edge to the end", 3, () -> x.edge(1, 2));
        c.is("pair", 1, () -> x.pair(1, 2));
        c.noAnswer("round still", x);
        c.is("bound of it", -1, () -> x.bound(2, 0));
        c.answer("an answer", x, 43, "0 1 0 3", 15, "0 3");
    }
}
