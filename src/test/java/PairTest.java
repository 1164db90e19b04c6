/** Promise 6. */
public final class PairTest {
    public static void main(String[] args) {
        Checks c = new Checks();
        WorstPaths x = Checks.blocks(1, 1, 1);
        x.edge(0, 1);
        x.edge(0, 1);
        x.edge(1, 2);
        x.edge(1, 2);
        c.index("pair(-1, 0)", () -> x.pair(-1, 0));
        c.index("pair(0, -1)", () -> x.pair(0, -1));
        c.index("pair(4, 0)", () -> x.pair(4, 0));
        c.index("pair(0, 4)", () -> x.pair(0, 4));
        c.index("the edges are looked at first", () -> x.pair(4, 4));
        c.argument("pair(2, 2)", () -> x.pair(2, 2));
        c.is("no pair yet", 0, () -> x.count(2));
        c.same("way", Checks.wayOf(x, 0), "0 2");
        c.is("one pair", 1, () -> x.pair(2, 0));
        c.same("not both", Checks.wayOf(x, 0), "0 3");
        c.is("two pairs", 2, () -> x.pair(0, 3));
        c.same("neither of two", Checks.wayOf(x, 1), "1 2");
        c.is("three pairs", 3, () -> x.pair(0, 3));
        c.unsupported("the fourth", () -> x.pair(1, 2));
        c.argument("that they are one is looked at before", () -> x.pair(1, 1));
        c.index("that there are none is looked at first", () -> x.pair(1, 4));
        c.is("still three", 3, () -> x.count(2));
        c.same("the fourth does not count", Checks.wayOf(x, 1), "1 2");
        bothOrders(c);
        severalPairs(c);
        againAndAgain(c);
        c.end();
    }

    // Whichever edge of a pair comes first on a way, the other one is not taken behind it.
    private static void bothOrders(Checks c) {
        for (int turn = 0; turn < 2; turn++) {
            WorstPaths x = Checks.blocks(1, 2, 4, 8);
            x.edge(0, 1);
            x.edge(1, 0);
            x.edge(0, 2);
            x.edge(2, 0);
            x.edge(0, 3);
            x.bound(1, 1);
            x.bound(3, 1);
            c.is("both loops", 17, () -> x.worst());
            x.pair(turn == 0 ? 0 : 2, turn == 0 ? 2 : 0);
            c.is("one loop", 14, () -> x.worst());
            c.same("the longer one", Checks.wayOf(x, 0), "2 3 4");
        }
    }

    // An edge of several pairs is taken with none of the others.
    private static void severalPairs(Checks c) {
        for (int turn = 0; turn < 2; turn++) {
            WorstPaths x = Checks.blocks(1, 1, 1);
            x.edge(0, 1);
            x.edge(0, 1);
            x.edge(1, 2);
            x.pair(turn == 0 ? 2 : 0, turn == 0 ? 0 : 2);
            c.same("the other one", Checks.wayOf(x, 0), "1 2");
            x.pair(turn == 0 ? 2 : 1, turn == 0 ? 1 : 2);
            c.unsupported("none of both", () -> x.worst());
        }
    }

    // An edge of a pair may be taken again and again.
    private static void againAndAgain(Checks c) {
        WorstPaths x = Checks.blocks(1, 2, 4);
        x.edge(0, 1);
        x.edge(1, 0);
        x.edge(0, 2);
        x.edge(1, 2);
        x.bound(1, 3);
        x.pair(0, 3);
        c.is("three times round", 14, () -> x.worst());
        c.is("at once", 5, () -> x.best());
        x.pair(1, 2);
        c.is("no way round", 5, () -> x.worst());
    }
}
