/** Promise 5. */
public final class BoundTest {
    public static void main(String[] args) {
        Checks c = new Checks();
        WorstPaths x = Checks.blocks(1, 10);
        c.index("bound without edges", () -> x.bound(0, 1));
        x.edge(0, 0);
        x.edge(0, 1);
        c.index("bound(-1, 1)", () -> x.bound(-1, 1));
        c.index("bound(2, 1)", () -> x.bound(2, 1));
        c.index("the edge is looked at first", () -> x.bound(2, 16));
        c.argument("bound(0, 16)", () -> x.bound(0, 16));
        c.argument("bound(0, -2)", () -> x.bound(0, -2));
        c.is("none before", -1, () -> x.bound(0, 15));
        c.is("fifteen times round", 26, () -> x.worst());
        c.is("15 before", 15, () -> x.bound(0, 0));
        c.is("never round", 11, () -> x.worst());
        c.is("0 before", 0, () -> x.bound(0, 1));
        c.argument("bound(0, 17)", () -> x.bound(0, 17));
        c.is("once round", 12, () -> x.worst());
        c.is("1 before", 1, () -> x.bound(0, WorstPaths.NONE));
        c.unsupported("round without a bound", () -> x.worst());
        c.is("none before again", -1, () -> x.bound(0, 2));
        c.is("twice round", 13, () -> x.worst());
        c.is("an edge of no circle", -1, () -> x.bound(1, 0));
        c.unsupported("the only edge to the end is never taken", () -> x.best());
        c.end();
    }
}
