/** Promise 13. */
public final class CountTest {
    public static void main(String[] args) {
        Checks c = new Checks();
        WorstPaths x = new WorstPaths(1, 3, 77);
        c.is("come to, of nothing", 0, () -> x.count(4));
        for (int b = 0; b < 4; b++) {
            x.block(b);
        }
        c.is("blocks", 4, () -> x.count(0));
        c.is("block 0 alone is come to", 1, () -> x.count(4));
        x.edge(1, 2);
        x.edge(2, 0);
        x.edge(3, 3);
        c.is("edges", 3, () -> x.count(1));
        c.is("not against edges", 1, () -> x.count(4));
        x.edge(0, 1);
        c.is("along edges", 3, () -> x.count(4));
        x.bound(3, 0);
        c.is("bounds do not matter", 3, () -> x.count(4));
        x.pair(0, 3);
        c.is("nor do pairs", 3, () -> x.count(4));
        c.is("pairs", 1, () -> x.count(2));
        Checks.touchAll(x, 3, 5, 5, 6);
        c.is("different lines, of blocks not come to as well", 2, () -> x.count(3));
        c.is("S", 2, () -> x.count(5));
        c.is("W", 3, () -> x.count(6));
        c.is("PENALTY", 77, () -> x.count(7));
        int[] others = {-1, 8, Integer.MAX_VALUE, Integer.MIN_VALUE};
        for (int what : others) {
            c.is("count(" + what + ")", -1, () -> x.count(what));
        }
        c.end();
    }
}
