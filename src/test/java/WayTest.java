/** Promise 9. */
public final class WayTest {
    public static void main(String[] args) {
        Checks c = new Checks();
        wrongInputs(c);
        lowestOnes(c);
        byHistory(c);
        c.end();
    }

    private static void wrongInputs(Checks c) {
        WorstPaths x = Checks.blocks(1, 2);
        x.edge(0, 0);
        c.unsupported("no answer is told first", () -> x.way(0, -1));
        c.unsupported("before another what, too", () -> x.way(2, 0));
        x.bound(0, 2);
        x.edge(0, 1);
        c.index("way(0, -1)", () -> x.way(0, -1));
        c.index("way(1, least)", () -> x.way(1, Integer.MIN_VALUE));
        c.index("way(2, 0)", () -> x.way(2, 0));
        c.index("way(-1, 0)", () -> x.way(-1, 0));
        c.same("the greatest", Checks.wayOf(x, 0), "0 0 1");
        c.same("the least", Checks.wayOf(x, 1), "1");
        c.is("behind its last", -1, () -> x.way(0, 3));
        c.is("far behind it", -1, () -> x.way(0, Integer.MAX_VALUE));
        c.is("far behind the least", -1, () -> x.way(1, Integer.MAX_VALUE));
        WorstPaths y = Checks.blocks(1);
        c.is("a way without edges", -1, () -> y.way(0, 0));
        c.is("and the least", -1, () -> y.way(1, 0));
    }

    private static void lowestOnes(Checks c) {
        WorstPaths x = Checks.blocks(1, 3, 3, 1);
        x.edge(2, 3);
        x.edge(0, 2);
        x.edge(0, 1);
        x.edge(1, 3);
        x.edge(0, 2);
        c.same("of the same time", Checks.wayOf(x, 0), "1 0");
        c.same("of the same least time", Checks.wayOf(x, 1), "1 0");
        x.bound(1, 0);
        c.same("the lowest that can be had", Checks.wayOf(x, 0), "2 3");
        WorstPaths y = Checks.blocks(0, 7);
        y.edge(0, 0);
        y.edge(0, 1);
        y.bound(0, 3);
        c.same("rounds that cost nothing", Checks.wayOf(y, 1), "0 0 0 1");
        c.same("and for the greatest", Checks.wayOf(y, 0), "0 0 0 1");
        WorstPaths z = Checks.blocks(0, 7);
        z.edge(0, 1);
        z.edge(0, 0);
        z.bound(1, 3);
        c.same("the end is lower", Checks.wayOf(z, 0), "0");
    }

    // The edge that goes on depends on what has been taken, not on the block alone.
    private static void byHistory(Checks c) {
        WorstPaths x = Checks.blocks(1, 2, 4, 8);
        x.edge(0, 1);
        x.edge(0, 2);
        x.edge(1, 0);
        x.edge(2, 0);
        x.edge(0, 3);
        x.bound(2, 2);
        x.bound(3, 1);
        c.same("the greatest", Checks.wayOf(x, 0), "0 2 0 2 1 3 4");
        x.pair(0, 1);
        c.same("not both", Checks.wayOf(x, 0), "0 2 0 2 4");
        x.bound(2, 1);
        c.same("the better one", Checks.wayOf(x, 0), "1 3 4");
        c.same("the least", Checks.wayOf(x, 1), "4");
        x.pair(4, 1);
        c.same("and one that can end", Checks.wayOf(x, 0), "0 2 4");
    }
}
