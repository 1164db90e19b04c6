/** Promise 13. */
public final class CountTest {
    public static void main(String[] args) {
        Checks c = new Checks();
        c.test("Blocks (0), edges (1), pairs (2), different lines (3), blocks that are come to "
                + "(4), S (5), W (6), PENALTY (7).",
                CountTest::eachWhat);
        c.test("different lines (3)", CountTest::differentLines);
        c.test("blocks that are come to (4)", CountTest::comeTo);
        c.test("NONE for another what.", CountTest::anotherWhat);
        c.test("Blocks (0), edges (1), pairs (2), different lines (3), blocks that are come to (4)",
                CountTest::allFull);
        c.end();
    }

    private static String all(WorstPaths x) {
        StringBuilder text = new StringBuilder();
        for (int what = 0; what < 8; what++) {
            text.append(what == 0 ? "" : " ").append(x.count(what));
        }
        return text.toString();
    }

    private static void eachWhat(Checks c) {
        WorstPaths x = new WorstPaths(1, 3, 77);
        c.same("nothing", all(x), "0 0 0 0 0 2 3 77");
        x.block(0);
        c.same("a block", all(x), "1 0 0 0 1 2 3 77");
        x.block(0);
        x.block(0);
        c.same("blocks", all(x), "3 0 0 0 1 2 3 77");
        x.edge(0, 1);
        x.edge(1, 1);
        c.same("edges", all(x), "3 2 0 0 2 2 3 77");
        x.pair(0, 1);
        c.same("a pair", all(x), "3 2 1 0 2 2 3 77");
        Checks.touchAll(x, 2, 5, 6, 7, 8);
        c.same("lines", all(x), "3 2 1 4 2 2 3 77");
    }

    private static void differentLines(Checks c) {
        WorstPaths x = Checks.blocks(0, 0);
        Checks.touchAll(x, 0, 5, 5, 6);
        c.is("the same line twice", 2, () -> x.count(3));
        Checks.touchAll(x, 1, 6, 7);
        c.is("of blocks that are not come to, too", 3, () -> x.count(3));
    }

    private static void comeTo(Checks c) {
        WorstPaths x = new WorstPaths(0, 1, 0);
        c.is("of none", 0, () -> x.count(4));
        Checks.blocksIn(x, 0, 0, 0, 0);
        c.is("block 0 alone", 1, () -> x.count(4));
        x.edge(1, 2);
        x.edge(2, 0);
        x.edge(3, 3);
        c.is("not against edges", 1, () -> x.count(4));
        x.edge(0, 1);
        c.is("along edges", 3, () -> x.count(4));
        x.bound(3, 0);
        c.is("bounds do not matter", 3, () -> x.count(4));
        x.pair(0, 3);
        c.is("nor do pairs", 3, () -> x.count(4));
        x.edge(2, 3);
        x.bound(4, 0);
        c.is("all, the last one by an edge that is never taken", 4, () -> x.count(4));
    }

    private static void anotherWhat(Checks c) {
        WorstPaths x = new WorstPaths(1, 3, 77);
        int[] others = {-1, -2, 8, 9, Integer.MAX_VALUE, Integer.MIN_VALUE};
        for (int what : others) {
            c.is("count(" + what + ") of nothing", -1, () -> x.count(what));
        }
        x.block(0);
        for (int what : others) {
            c.is("count(" + what + ")", -1, () -> x.count(what));
        }
    }

    private static void allFull(Checks c) {
        WorstPaths x = new WorstPaths(2, 4, 999);
        for (int b = 0; b < 40; b++) {
            x.block(0);
            x.touch(b, b);
        }
        for (int e = 0; e < 80; e++) {
            x.edge(e / 2, Math.min(39, e / 2 + 1));
        }
        for (int i = 0; i < 3; i++) {
            x.pair(i, 79 - i);
        }
        c.same("all that there can be", all(x), "40 80 3 40 40 4 4 999");
    }
}
