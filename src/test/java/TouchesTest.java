/** Promise 10. */
public final class TouchesTest {
    public static void main(String[] args) {
        Checks c = new Checks();
        wrongInputs(c);
        hitsMissesOpen(c);
        roundAndRound(c);
        setsApart(c);
        c.end();
    }

    private static String all(WorstPaths x, int block, int touches) {
        StringBuilder text = new StringBuilder();
        for (int i = 0; i < touches; i++) {
            text.append(i == 0 ? "" : " ").append(x.touches(block, i));
        }
        return text.toString();
    }

    private static void wrongInputs(Checks c) {
        WorstPaths x = Checks.blocks(1, 1);
        c.index("no touch", () -> x.touches(0, 0));
        Checks.touchAll(x, 0, 3);
        Checks.touchAll(x, 1, 3, 4);
        c.index("touches(-1, 0)", () -> x.touches(-1, 0));
        c.index("touches(2, 0)", () -> x.touches(2, 0));
        c.index("touches(0, -1)", () -> x.touches(0, -1));
        c.index("touches(0, 1)", () -> x.touches(0, 1));
        c.index("a block that is not come to", () -> x.touches(1, 2));
        c.is("its touch", -1, () -> x.touches(1, 1));
        x.edge(0, 1);
        c.is("when it is come to", 2, () -> x.touches(1, 1));
        c.is("and its other one", 1, () -> x.touches(1, 0));
    }

    private static void hitsMissesOpen(Checks c) {
        WorstPaths x = Checks.blocks(1, 1, 1, 1);
        Checks.touchAll(x, 0, 1, 2, 1, 3, 2, 1);
        c.same("two lines, by last use", all(x, 0, 6), "2 2 1 2 2 2");
        x.edge(0, 1);
        x.edge(0, 2);
        x.edge(1, 3);
        x.edge(2, 3);
        Checks.touchAll(x, 1, 7);
        Checks.touchAll(x, 2, 8);
        Checks.touchAll(x, 3, 1, 7, 8, 2);
        c.same("where edges meet", all(x, 3, 4), "1 0 2 2");
    }

    private static void roundAndRound(Checks c) {
        WorstPaths x = Checks.blocks(1, 1, 1);
        x.edge(0, 1);
        x.edge(1, 1);
        x.edge(1, 2);
        x.bound(1, 0);
        Checks.touchAll(x, 1, 5);
        Checks.touchAll(x, 2, 5, 6);
        c.is("bounds do not matter", 0, () -> x.touches(1, 0));
        c.same("behind the loop", all(x, 2, 2), "1 2");
        x.touch(0, 5);
        c.is("surely there by both", 1, () -> x.touches(1, 0));
        x.edge(2, 0);
        c.is("block 0 begins with nothing, too", 0, () -> x.touches(0, 0));
        x.bound(1, WorstPaths.NONE);
        c.is("and without an answer", 1, () -> x.touches(1, 0));
    }

    private static void setsApart(Checks c) {
        WorstPaths x = new WorstPaths(2, 1, 1);
        x.block(0);
        Checks.touchAll(x, 0, 0, 1, 2, 3, 0, 4);
        c.same("four sets", all(x, 0, 6), "2 2 2 2 1 2");
        WorstPaths y = new WorstPaths(1, 1, 1);
        y.block(0);
        Checks.touchAll(y, 0, -1, -2, -1, 1, -2, -1);
        c.same("two sets, lines below 0", all(y, 0, 6), "2 2 1 2 1 2");
    }
}
