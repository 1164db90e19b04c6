/** Promise 4. */
public final class EdgeTest {
    public static void main(String[] args) {
        Checks c = new Checks();
        c.test("An edge more: its number.", EdgeTest::itsNumber);
        c.test("EDGES, up to 80, lead from a block to a block", EdgeTest::fromABlockToABlock);
        c.test("IndexOutOfBoundsException, when there are no such blocks", EdgeTest::noSuchBlocks);
        c.test("UnsupportedOperationException, when there are eighty.", EdgeTest::eighty);
        c.test("each may have a BOUND", EdgeTest::mayHaveABound);
        c.end();
    }

    private static void itsNumber(Checks c) {
        WorstPaths x = Checks.blocks(1, 2);
        for (int i = 0; i < 80; i++) {
            int number = i;
            c.is("edge " + i, number, () -> x.edge(0, 1));
            c.is("edges", number + 1, () -> x.count(1));
        }
    }

    // Edges that are told in no order of their blocks still leave the block that they were told.
    private static void fromABlockToABlock(Checks c) {
        WorstPaths x = Checks.blocks(1, 2, 4, 8);
        x.edge(2, 3);
        x.edge(0, 1);
        x.edge(1, 3);
        x.edge(0, 2);
        x.edge(1, 2);
        c.answer("in any order", x, 15, "1 4 0", 11, "1 2");
        WorstPaths y = Checks.blocks(1, 2);
        y.edge(0, 0);
        y.bound(0, 1);
        y.edge(0, 1);
        c.answer("from a block to itself", y, 4, "0 1", 3, "1");
        WorstPaths w = Checks.blocks(1, 2, 4);
        w.edge(1, 0);
        w.bound(0, 1);
        w.edge(0, 1);
        w.edge(1, 2);
        c.answer("from a block back to one before", w, 10, "1 0 1 2", 7, "1 2");
        WorstPaths z = Checks.blocks(1, 2);
        z.edge(0, 1);
        z.edge(0, 1);
        z.bound(0, 0);
        c.answer("two between the same blocks", z, 3, "1", 3, "1");
    }

    private static void noSuchBlocks(Checks c) {
        WorstPaths x = new WorstPaths(0, 1, 0);
        c.index("without blocks", () -> x.edge(0, 0));
        x.block(1);
        x.block(2);
        int[] wrong = {-1, 2, 3, 39, 40, Integer.MIN_VALUE, Integer.MAX_VALUE};
        for (int b : wrong) {
            c.index("edge(" + b + ", 0)", () -> x.edge(b, 0));
            c.index("edge(0, " + b + ")", () -> x.edge(0, b));
            c.index("edge(" + b + ", " + b + ")", () -> x.edge(b, b));
        }
        c.is("no edge by them", 0, () -> x.count(1));
        c.answer("block 0 is an end still", x, 1, "", 1, "");
        c.is("the last block", 0, () -> x.edge(0, 1));
        c.is("and from it", 1, () -> x.edge(1, 1));
    }

    private static void eighty(Checks c) {
        WorstPaths x = Checks.blocks(1, 2, 4, 8);
        for (int i = 0; i < 79; i++) {
            x.edge(0, 1);
        }
        c.is("the eightieth", 79, () -> x.edge(0, 2));
        c.unsupported("the 81st", () -> x.edge(0, 3));
        c.unsupported("the 81st again", () -> x.edge(1, 2));
        c.unsupported("from a block to itself", () -> x.edge(3, 3));
        c.is("still eighty", 80, () -> x.count(1));
        c.is("nowhere come to by it", 3, () -> x.count(4));
        c.answer("the eightieth is taken", x, 5, "79", 3, "0");
        c.is("it may have a bound", -1, () -> x.bound(79, 0));
        c.answer("the eightieth is not taken", x, 3, "0", 3, "0");
        c.index("there is no edge 80", () -> x.bound(80, 1));
    }

    private static void mayHaveABound(Checks c) {
        WorstPaths x = Checks.blocks(1, 2);
        x.edge(0, 1);
        x.edge(0, 0);
        c.is("a new edge has none", -1, () -> x.bound(0, 3));
        c.is("nor has another one", -1, () -> x.bound(1, 2));
        c.is("each has its own", 3, () -> x.bound(0, 1));
        c.is("and keeps it", 2, () -> x.bound(1, 2));
    }
}
