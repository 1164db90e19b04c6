/** Promise 6. */
public final class PairTest {
    public static void main(String[] args) {
        Checks c = new Checks();
        c.test("A pair more: how many.", PairTest::howMany);
        c.test("IndexOutOfBoundsException, when there are no such edges", PairTest::noSuchEdges);
        c.test("IllegalArgumentException, when they are one", PairTest::theyAreOne);
        c.test("UnsupportedOperationException, when there are three.", PairTest::three);
        c.test("PAIRS, up to 3, of different edges: not both are taken.", PairTest::notBoth);
        c.test("PAIRS, up to 3, of different edges: not both are taken.", PairTest::severalPairs);
        c.test("not both are taken", PairTest::againAndAgain);
        c.test("PAIRS, up to 3, of different edges: not both are taken.", PairTest::oneAfterTheOther);
        c.end();
    }

    /** Two edges from block 0 to 1, two from 1 to 2. */
    private static WorstPaths twoByTwo() {
        WorstPaths x = Checks.blocks(1, 1, 1);
        x.edge(0, 1);
        x.edge(0, 1);
        x.edge(1, 2);
        x.edge(1, 2);
        return x;
    }

    private static void howMany(Checks c) {
        WorstPaths x = twoByTwo();
        c.is("one", 1, () -> x.pair(0, 2));
        c.is("pairs", 1, () -> x.count(2));
        c.is("the same once more", 2, () -> x.pair(0, 2));
        c.is("the same in the other order", 3, () -> x.pair(2, 0));
        c.is("pairs at last", 3, () -> x.count(2));
        c.answer("they forbid the same", x, 3, "0 3", 3, "0 3");
    }

    private static void noSuchEdges(Checks c) {
        WorstPaths none = Checks.blocks(1, 1);
        c.index("without edges", () -> none.pair(0, 1));
        WorstPaths x = twoByTwo();
        int[] wrong = {-1, 4, 5, 79, 80, Integer.MIN_VALUE, Integer.MAX_VALUE};
        for (int e : wrong) {
            c.index("pair(" + e + ", 0)", () -> x.pair(e, 0));
            c.index("pair(0, " + e + ")", () -> x.pair(0, e));
        }
        c.is("no pair by them", 0, () -> x.count(2));
        c.is("the last edge", 1, () -> x.pair(3, 0));
        c.is("in either place", 2, () -> x.pair(1, 3));
    }

    private static void theyAreOne(Checks c) {
        WorstPaths x = twoByTwo();
        for (int e = 0; e < 4; e++) {
            int edge = e;
            c.argument("pair(" + e + ", " + e + ")", () -> x.pair(edge, edge));
        }
        c.is("no pair by it", 0, () -> x.count(2));
        c.answer("nothing is forbidden by it", x, 3, "0 2", 3, "0 2");
    }

    private static void three(Checks c) {
        WorstPaths x = twoByTwo();
        x.pair(0, 2);
        x.pair(0, 3);
        c.is("the third", 3, () -> x.pair(1, 2));
        c.answer("all three count", x, 3, "1 3", 3, "1 3");
        c.unsupported("the fourth", () -> x.pair(1, 3));
        c.unsupported("the fourth, told before", () -> x.pair(0, 2));
        c.is("still three", 3, () -> x.count(2));
        c.answer("the fourth does not count", x, 3, "1 3", 3, "1 3");
    }

    // Whichever edge of a pair comes first on a way, the other one is not taken behind it.
    private static void notBoth(Checks c) {
        for (int turn = 0; turn < 2; turn++) {
            WorstPaths x = Checks.blocks(1, 2, 4, 8);
            Checks.edgesAlong(x, 0, 1, 0, 2, 0, 3);
            x.bound(1, 1);
            x.bound(3, 1);
            c.answer("both loops", x, 17, "0 1 2 3 4", 9, "4");
            x.pair(turn == 0 ? 0 : 2, turn == 0 ? 2 : 0);
            c.answer("one loop", x, 14, "2 3 4", 9, "4");
            x.bound(1, 3);
            c.answer("the one that comes more often", x, 18, "0 1 0 1 0 1 4", 9, "4");
        }
        WorstPaths y = Checks.blocks(1, 2, 4);
        Checks.edgesAlong(y, 0, 1, 2);
        y.pair(0, 1);
        c.noAnswer("one behind the other", y);
        WorstPaths z = Checks.blocks(1, 2, 4);
        z.edge(0, 1);
        z.edge(0, 2);
        z.pair(0, 1);
        c.answer("one beside the other", z, 5, "1", 3, "0");
    }

    // An edge of several pairs is taken with none of the others.
    private static void severalPairs(Checks c) {
        for (int turn = 0; turn < 2; turn++) {
            WorstPaths x = Checks.blocks(1, 1, 1);
            x.edge(0, 1);
            x.edge(0, 1);
            x.edge(0, 1);
            x.edge(1, 2);
            x.pair(turn == 0 ? 3 : 0, turn == 0 ? 0 : 3);
            c.answer("the second one", x, 3, "1 3", 3, "1 3");
            x.pair(turn == 0 ? 3 : 1, turn == 0 ? 1 : 3);
            c.answer("the third one", x, 3, "2 3", 3, "2 3");
            x.pair(turn == 0 ? 3 : 2, turn == 0 ? 2 : 3);
            c.noAnswer("none of them", x);
        }
    }

    private static void againAndAgain(Checks c) {
        WorstPaths x = Checks.blocks(1, 2, 4);
        x.edge(0, 1);
        x.edge(1, 0);
        x.edge(0, 2);
        x.edge(1, 2);
        x.bound(1, 3);
        x.pair(0, 3);
        c.answer("one of both, again and again", x, 14, "0 1 0 1 0 1 2", 5, "2");
        x.pair(1, 2);
        c.answer("no way round", x, 5, "2", 5, "2");
    }

    // A pair that is told later, of lower or of higher edges, changes nothing of one told before.
    private static void oneAfterTheOther(Checks c) {
        int[][][] orders = {{{0, 2}, {5, 6}, {1, 7}}, {{5, 6}, {0, 2}, {1, 7}}, {{1, 7}, {5, 6}, {0, 2}},
            {{7, 1}, {2, 0}, {6, 5}}};
        for (int[][] order : orders) {
            WorstPaths x = Checks.blocks(1, 1, 1, 1, 1);
            for (int e = 0; e < 8; e++) {
                x.edge(e / 2, e / 2 + 1);
            }
            for (int[] pair : order) {
                c.same("some way", Checks.wayOf(x, 0).isEmpty(), false);
                x.pair(pair[0], pair[1]);
            }
            c.answer("0 and 2, 5 and 6, 1 and 7", x, 5, "0 3 4 6", 5, "0 3 4 6");
            x.bound(0, 0);
            c.answer("without edge 0", x, 5, "1 2 4 6", 5, "1 2 4 6");
            x.bound(4, 0);
            c.noAnswer("without edge 4: 1, then 5, and neither 6 nor 7", x);
            x.bound(0, 1);
            c.answer("with edge 0 again", x, 5, "0 3 5 7", 5, "0 3 5 7");
        }
    }
}
