/** Promise 1. */
public final class NewObjectTest {
    private static final int MOST = Integer.MAX_VALUE;
    private static final int LEAST = Integer.MIN_VALUE;

    public static void main(String[] args) {
        Checks c = new Checks();
        c.test("S is 2 to the power (sets modulo 3)", NewObjectTest::sets);
        c.test("(rests not below 0)", NewObjectTest::setsBelowZero);
        c.test("W is 1 + (ways - 1) modulo 4", NewObjectTest::ways);
        c.test("(rests not below 0)", NewObjectTest::waysBelowOne);
        c.test("PENALTY is penalty modulo 1000", NewObjectTest::penalties);
        c.test("(rests not below 0)", NewObjectTest::penaltiesBelowZero);
        c.test("No blocks.", NewObjectTest::noBlocks);
        c.test("`NONE = -1`: Nothing there.", NewObjectTest::constant);
        c.end();
    }

    private static void sets(Checks c) {
        int[][] rows = {{0, 1}, {1, 2}, {2, 4}, {3, 1}, {4, 2}, {5, 4}, {MOST, 2}};
        for (int[] row : rows) {
            hasSets(c, row[0], row[1]);
        }
    }

    private static void setsBelowZero(Checks c) {
        int[][] rows = {{-1, 4}, {-2, 2}, {-3, 1}, {-4, 4}, {LEAST, 2}, {LEAST + 1, 4}};
        for (int[] row : rows) {
            hasSets(c, row[0], row[1]);
        }
    }

    // Lines that are S apart share a set of one line, those that are half of it apart do not.
    private static void hasSets(Checks c, int sets, int due) {
        c.is("S of " + sets, due, () -> new WorstPaths(sets, 1, 0).count(5));
        WorstPaths x = Checks.blocksIn(new WorstPaths(sets, 1, 0), 0);
        Checks.touchAll(x, 0, 0, due, 0);
        c.same("S apart, sets " + sets, Checks.touchesOf(x, 0, 3), "2 2 2");
        if (due > 1) {
            WorstPaths y = Checks.blocksIn(new WorstPaths(sets, 1, 0), 0);
            Checks.touchAll(y, 0, 0, due / 2, 0);
            c.same("half of S apart, sets " + sets, Checks.touchesOf(y, 0, 3), "2 2 1");
        }
    }

    private static void ways(Checks c) {
        int[][] rows = {{1, 1}, {2, 2}, {3, 3}, {4, 4}, {5, 1}, {6, 2}, {8, 4}, {9, 1}, {MOST, 3}};
        for (int[] row : rows) {
            hasWays(c, row[0], row[1]);
        }
    }

    // The least int less 1 goes round to the greatest one; its rest is the same.
    private static void waysBelowOne(Checks c) {
        int[][] rows = {{0, 4}, {-1, 3}, {-2, 2}, {-3, 1}, {-4, 4}, {LEAST, 4}, {LEAST + 1, 1}};
        for (int[] row : rows) {
            hasWays(c, row[0], row[1]);
        }
    }

    // A line is still there behind W - 1 others, and is not behind W of them.
    private static void hasWays(Checks c, int ways, int due) {
        c.is("W of " + ways, due, () -> new WorstPaths(0, ways, 0).count(6));
        for (int others = due - 1; others <= due; others++) {
            WorstPaths x = Checks.blocksIn(new WorstPaths(0, ways, 0), 0);
            x.touch(0, 0);
            for (int line = 1; line <= others; line++) {
                x.touch(0, line);
            }
            int last = x.touch(0, 0) - 1;
            c.is("behind " + others + " others, ways " + ways, others < due ? 1 : 2,
                    () -> x.touches(0, last));
        }
    }

    private static void penalties(Checks c) {
        int[][] rows = {{0, 0}, {1, 1}, {999, 999}, {1000, 0}, {1001, 1}, {1999, 999}, {2000, 0},
            {MOST, 647}};
        for (int[] row : rows) {
            hasPenalty(c, row[0], row[1]);
        }
    }

    private static void penaltiesBelowZero(Checks c) {
        int[][] rows = {{-1, 999}, {-999, 1}, {-1000, 0}, {-1001, 999}, {LEAST, 352}};
        for (int[] row : rows) {
            hasPenalty(c, row[0], row[1]);
        }
    }

    private static void hasPenalty(Checks c, int penalty, int due) {
        WorstPaths x = Checks.blocksIn(new WorstPaths(0, 1, penalty), 0);
        x.touch(0, 5);
        c.is("PENALTY of " + penalty, due, () -> x.count(7));
        c.is("a miss, penalty " + penalty, due, x::worst);
        c.is("a sure miss, penalty " + penalty, due, x::best);
    }

    private static void noBlocks(Checks c) {
        WorstPaths x = new WorstPaths(0, 1, 0);
        for (int what = 0; what <= 4; what++) {
            int asked = what;
            c.is("count(" + what + ")", 0, () -> x.count(asked));
        }
        c.index("touch", () -> x.touch(0, 0));
        c.index("edge", () -> x.edge(0, 0));
        c.index("bound", () -> x.bound(0, 0));
        c.index("pair", () -> x.pair(0, 1));
        c.index("touches", () -> x.touches(0, 0));
        c.index("age", () -> x.age(0, 0, 0));
        c.index("time", () -> x.time(0, 0));
        c.noAnswer("nothing", x);
        c.is("the first block", 0, () -> x.block(0));
    }

    private static void constant(Checks c) {
        c.same("NONE", WorstPaths.NONE, -1);
    }
}
