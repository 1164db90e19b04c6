/** Promise 3. */
public final class TouchTest {
    public static void main(String[] args) {
        Checks c = new Checks();
        WorstPaths x = new WorstPaths(0, 4, 1);
        c.index("touch without blocks", () -> x.touch(0, 1));
        for (int b = 0; b < 8; b++) {
            x.block(0);
        }
        c.index("touch(-1, ..)", () -> x.touch(-1, 1));
        c.index("touch(8, ..)", () -> x.touch(8, 1));
        c.is("no line yet", 0, () -> x.count(3));
        c.is("first touch", 1, () -> x.touch(0, Integer.MIN_VALUE));
        c.is("the same line again", 2, () -> x.touch(0, Integer.MIN_VALUE));
        c.is("one line", 1, () -> x.count(3));
        for (int i = 3; i <= 6; i++) {
            int count = i;
            c.is("touch " + i, count, () -> x.touch(0, -count));
        }
        c.unsupported("the seventh touch", () -> x.touch(0, -3));
        c.is("five lines", 5, () -> x.count(3));
        for (int i = 5; i < 40; i++) {
            x.touch(1 + (i - 5) / 6, 100 + i);
        }
        c.is("forty lines", 40, () -> x.count(3));
        c.unsupported("the 41st line", () -> x.touch(7, 7));
        c.index("the block is looked at first", () -> x.touch(8, 7));
        c.is("a known line still goes", 1, () -> x.touch(7, 139));
        c.is("still forty lines", 40, () -> x.count(3));
        inOrder(c);
        c.end();
    }

    private static void inOrder(Checks c) {
        WorstPaths x = new WorstPaths(0, 1, 1);
        x.block(0);
        Checks.touchAll(x, 0, 1, 1, 2, 1);
        c.is("touch 0", 2, () -> x.touches(0, 0));
        c.is("touch 1", 1, () -> x.touches(0, 1));
        c.is("touch 2", 2, () -> x.touches(0, 2));
        c.is("touch 3", 2, () -> x.touches(0, 3));
        c.is("behind the others", 5, () -> x.touch(0, 1));
        c.is("touch 4", 1, () -> x.touches(0, 4));
    }
}
