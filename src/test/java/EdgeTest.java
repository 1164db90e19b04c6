/** Promise 4. */
public final class EdgeTest {
    public static void main(String[] args) {
        Checks c = new Checks();
        WorstPaths x = Checks.blocks(1, 2);
        c.index("edge(-1, 0)", () -> x.edge(-1, 0));
        c.index("edge(0, -1)", () -> x.edge(0, -1));
        c.index("edge(2, 0)", () -> x.edge(2, 0));
        c.index("edge(0, 2)", () -> x.edge(0, 2));
        c.is("no edge yet", 0, () -> x.count(1));
        for (int i = 0; i < 80; i++) {
            int number = i;
            c.is("edge " + i, number, () -> x.edge(0, 1));
        }
        c.unsupported("the 81st", () -> x.edge(0, 1));
        c.index("the blocks are looked at first", () -> x.edge(0, 2));
        c.is("eighty", 80, () -> x.count(1));
        c.is("edges lead from and to", 3, () -> x.worst());
        c.is("a new edge has no bound", -1, () -> x.bound(79, 3));
        mixedOrder(c);
        c.end();
    }

    // Edges that are told in no order of their blocks still leave the block that they were told.
    private static void mixedOrder(Checks c) {
        WorstPaths x = Checks.blocks(1, 2, 4, 8);
        x.edge(2, 3);
        x.edge(0, 1);
        x.edge(1, 3);
        x.edge(0, 2);
        x.edge(1, 2);
        c.is("worst", 15, () -> x.worst());
        c.is("best", 11, () -> x.best());
        c.same("the worst way", Checks.wayOf(x, 0), "1 4 0");
        c.same("the best way", Checks.wayOf(x, 1), "1 2");
    }
}
