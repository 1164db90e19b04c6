/** Promise 11. */
public final class AgeTest {
    public static void main(String[] args) {
        Checks c = new Checks();
        wrongInputs(c);
        byLastUse(c);
        whereEdgesMeet(c);
        sameAges(c);
        roundAndRound(c);
        notComeTo(c);
        c.end();
    }

    /** Greatest and least age of lines where a block begins, as "greatest/least". */
    private static String ages(WorstPaths x, int block, int... lines) {
        StringBuilder text = new StringBuilder();
        for (int line : lines) {
            text.append(text.length() == 0 ? "" : " ");
            text.append(x.age(block, line, 0)).append("/").append(x.age(block, line, 1));
        }
        return text.toString();
    }

    private static void wrongInputs(Checks c) {
        WorstPaths x = Checks.blocks(1, 1);
        c.index("age(-1, ..)", () -> x.age(-1, 0, 0));
        c.index("age(2, ..)", () -> x.age(2, 0, 0));
        c.index("age(.., 2)", () -> x.age(0, 0, 2));
        c.index("age(.., -1)", () -> x.age(0, 0, -1));
        c.index("another what, not come to", () -> x.age(1, 0, 2));
        c.is("a line that nobody touches", -1, () -> x.age(0, 5, 0));
        c.is("and its least age", -1, () -> x.age(0, 5, 1));
        x.touch(0, 5);
        c.is("when the block begins", -1, () -> x.age(0, 5, 1));
    }

    private static void byLastUse(Checks c) {
        WorstPaths x = new WorstPaths(0, 3, 1);
        x.block(0);
        x.block(0);
        x.edge(0, 1);
        Checks.touchAll(x, 0, 1, 2, 3);
        c.same("in order", ages(x, 1, 1, 2, 3), "2/2 1/1 0/0");
        x.touch(0, 2);
        c.same("only younger ones get older", ages(x, 1, 1, 2, 3), "2/2 0/0 1/1");
        x.touch(0, 4);
        c.same("the oldest goes", ages(x, 1, 1, 2, 3, 4), "-1/-1 1/1 2/2 0/0");
        c.same("at the beginning", ages(x, 0, 1, 2, 3, 4), "-1/-1 -1/-1 -1/-1 -1/-1");
    }

    /** Blocks 1 and 2 lead from block 0 to block 3, and that to block 4: one set of four lines. */
    private static WorstPaths fork() {
        WorstPaths x = new WorstPaths(0, 4, 1);
        for (int b = 0; b < 5; b++) {
            x.block(0);
        }
        x.edge(0, 1);
        x.edge(0, 2);
        x.edge(1, 3);
        x.edge(2, 3);
        x.edge(3, 4);
        return x;
    }

    private static void whereEdgesMeet(Checks c) {
        WorstPaths x = fork();
        Checks.touchAll(x, 1, 1, 2, 3);
        Checks.touchAll(x, 2, 2, 1);
        c.same("greatest of all, least of any", ages(x, 3, 1, 2, 3), "2/0 1/1 -1/0");
        x.touch(3, 2);
        c.same("2 is used, those as young as it get older", ages(x, 4, 1, 2, 3), "2/1 0/0 -1/1");
        x.touch(3, 3);
        c.same("3 is used, the others get older", ages(x, 4, 1, 2, 3), "3/2 1/1 0/0");
        x.touch(3, 1);
        c.same("1 is used", ages(x, 4, 1, 2, 3), "0/0 2/2 1/1");
    }

    // A line of the same greatest age does not get older, one of the same least age does.
    private static void sameAges(Checks c) {
        WorstPaths x = fork();
        Checks.touchAll(x, 1, 1, 2);
        Checks.touchAll(x, 2, 2, 1);
        c.same("in either order", ages(x, 3, 1, 2), "1/0 1/0");
        x.touch(3, 1);
        c.same("one is used", ages(x, 4, 1, 2), "0/0 1/1");
    }

    private static void roundAndRound(Checks c) {
        WorstPaths x = Checks.blocks(1, 1, 1);
        x.touch(0, 1);
        x.edge(0, 1);
        x.edge(1, 1);
        x.edge(1, 2);
        c.same("a loop without touches", ages(x, 1, 1), "0/0");
        x.touch(1, 2);
        c.same("a loop that touches another", ages(x, 1, 1, 2), "-1/0 -1/0");
        x.touch(1, 3);
        c.same("and one more", ages(x, 1, 1, 2, 3), "-1/0 -1/1 -1/0");
        c.same("behind it", ages(x, 2, 1, 2, 3), "-1/-1 1/1 0/0");
        x.edge(2, 0);
        c.same("block 0: the beginning, too", ages(x, 0, 1, 2, 3), "-1/-1 -1/1 -1/0");
    }

    private static void notComeTo(Checks c) {
        WorstPaths x = Checks.blocks(1, 1, 1);
        x.edge(0, 1);
        x.edge(2, 1);
        x.touch(0, 1);
        x.touch(2, 7);
        c.same("edges from where one does not come do not count", ages(x, 1, 1, 7), "0/0 -1/-1");
        c.same("not come to", ages(x, 2, 1, 7), "-1/-1 -1/-1");
        x.edge(2, 2);
        c.same("still not", ages(x, 2, 1, 7), "-1/-1 -1/-1");
        x.edge(1, 2);
        x.bound(3, 0);
        c.same("come to, by an edge that is never taken", ages(x, 2, 1, 7), "-1/0 -1/0");
    }
}
