/** Of several exceptions the first one told is thrown: each call, wrong in several ways at once. */
public final class FirstToldTest {
    private static final String SENTENCE = "Of several exceptions the first one told is thrown.";
    private static final int[] WRONG = {-1, 40, 80, Integer.MIN_VALUE, Integer.MAX_VALUE};

    public static void main(String[] args) {
        Checks c = new Checks();
        c.test(SENTENCE, FirstToldTest::block);
        c.test(SENTENCE, FirstToldTest::touchOfSix);
        c.test(SENTENCE, FirstToldTest::touchOfTheFortyFirstLine);
        c.test(SENTENCE, FirstToldTest::edge);
        c.test(SENTENCE, FirstToldTest::bound);
        c.test(SENTENCE, FirstToldTest::pairThatIsOne);
        c.test(SENTENCE, FirstToldTest::fourthPair);
        c.test(SENTENCE, FirstToldTest::way);
        c.end();
    }

    private static void block(Checks c) {
        WorstPaths x = Checks.blocks(new int[40]);
        c.unsupported("there are forty", () -> x.block(0));
        c.argument("block(-1), when there are forty", () -> x.block(-1));
        c.argument("block(100001), when there are forty", () -> x.block(100001));
    }

    private static void touchOfSix(Checks c) {
        WorstPaths x = Checks.blocks(new int[40]);
        for (int b = 0; b < 40; b++) {
            Checks.touchAll(x, b, 1, 2, 3, 4, 5, 6);
        }
        c.unsupported("all have six", () -> x.touch(39, 1));
        for (int b : WRONG) {
            c.index("touch(" + b + ", 1), when all have six", () -> x.touch(b, 1));
        }
    }

    private static void touchOfTheFortyFirstLine(Checks c) {
        WorstPaths x = Checks.blocks(new int[40]);
        for (int b = 0; b < 40; b++) {
            x.touch(b, b);
        }
        c.unsupported("the 41st line", () -> x.touch(39, 40));
        for (int b : WRONG) {
            c.index("touch(" + b + ", the 41st line)", () -> x.touch(b, 40));
        }
        Checks.touchAll(x, 0, 1, 2, 3, 4, 5);
        c.unsupported("six, and the 41st line", () -> x.touch(0, 40));
    }

    private static void edge(Checks c) {
        WorstPaths x = Checks.blocks(1, 2);
        for (int e = 0; e < 80; e++) {
            x.edge(0, 1);
        }
        c.unsupported("there are eighty", () -> x.edge(0, 1));
        for (int b : WRONG) {
            c.index("edge(" + b + ", 0), when there are eighty", () -> x.edge(b, 0));
            c.index("edge(0, " + b + "), when there are eighty", () -> x.edge(0, b));
        }
        c.index("edge(2, 2), when there are eighty", () -> x.edge(2, 2));
    }

    private static void bound(Checks c) {
        WorstPaths x = Checks.blocks(1, 2);
        x.edge(0, 1);
        c.argument("bound(0, 16)", () -> x.bound(0, 16));
        for (int e : WRONG) {
            c.index("bound(" + e + ", 16)", () -> x.bound(e, 16));
            c.index("bound(" + e + ", -2)", () -> x.bound(e, -2));
        }
        c.index("bound(1, 16)", () -> x.bound(1, 16));
    }

    private static void pairThatIsOne(Checks c) {
        WorstPaths x = Checks.blocks(1, 2);
        x.edge(0, 1);
        x.edge(0, 1);
        c.argument("pair(1, 1)", () -> x.pair(1, 1));
        c.index("pair(2, 2)", () -> x.pair(2, 2));
        for (int e : WRONG) {
            c.index("pair(" + e + ", " + e + ")", () -> x.pair(e, e));
        }
    }

    private static void fourthPair(Checks c) {
        WorstPaths x = Checks.blocks(1, 2);
        x.edge(0, 1);
        x.edge(0, 1);
        for (int i = 0; i < 3; i++) {
            x.pair(0, 1);
        }
        c.unsupported("there are three", () -> x.pair(0, 1));
        c.argument("pair(0, 0), when there are three", () -> x.pair(0, 0));
        c.argument("pair(1, 1), when there are three", () -> x.pair(1, 1));
        c.index("pair(2, 2), when there are three", () -> x.pair(2, 2));
        for (int e : WRONG) {
            c.index("pair(" + e + ", 0), when there are three", () -> x.pair(e, 0));
            c.index("pair(0, " + e + "), when there are three", () -> x.pair(0, e));
            c.index("pair(" + e + ", " + e + "), when there are three", () -> x.pair(e, e));
        }
    }

    private static void way(Checks c) {
        WorstPaths none = new WorstPaths(0, 1, 0);
        WorstPaths round = Checks.blocks(1, 2);
        round.edge(0, 1);
        round.edge(0, 0);
        WorstPaths noEnd = Checks.blocks(1);
        noEnd.edge(0, 0);
        noEnd.bound(0, 1);
        WorstPaths tooMany = Checks.blocks(1, 2);
        tooMany.edge(0, 1);
        for (int e = 1; e < 5; e++) {
            tooMany.edge(0, 0);
            tooMany.bound(e, 15);
        }
        WorstPaths[] all = {none, round, noEnd, tooMany};
        for (int i = 0; i < all.length; i++) {
            WorstPaths x = all[i];
            for (int wrong : WRONG) {
                c.unsupported(i + ": another what, " + wrong, () -> x.way(wrong, 0));
                c.unsupported(i + ": another what and k, " + wrong, () -> x.way(wrong, -1));
            }
            c.unsupported(i + ": k below 0", () -> x.way(0, -1));
            c.unsupported(i + ": k far below 0", () -> x.way(1, Integer.MIN_VALUE));
        }
        round.bound(1, 0);
        c.index("k below 0, with an answer", () -> round.way(0, -1));
        c.index("another what, with an answer", () -> round.way(2, 0));
    }
}
