/** Promise 1. */
public final class NewObjectTest {
    public static void main(String[] args) {
        Checks c = new Checks();
        int[][] sets = {{0, 1}, {1, 2}, {2, 4}, {3, 1}, {5, 4}, {-1, 4}, {-2, 2}, {-3, 1},
            {Integer.MAX_VALUE, 2}, {Integer.MIN_VALUE, 2}};
        for (int[] row : sets) {
            c.is("S of " + row[0], row[1], () -> new WorstPaths(row[0], 1, 0).count(5));
        }
        int[][] ways = {{1, 1}, {2, 2}, {3, 3}, {4, 4}, {5, 1}, {0, 4}, {-1, 3}, {-2, 2}, {-3, 1},
            {Integer.MAX_VALUE, 3}, {Integer.MIN_VALUE, 4}};
        for (int[] row : ways) {
            c.is("W of " + row[0], row[1], () -> new WorstPaths(0, row[0], 0).count(6));
        }
        int[][] penalties = {{0, 0}, {1, 1}, {999, 999}, {1000, 0}, {1234, 234}, {-1, 999},
            {-1000, 0}, {Integer.MAX_VALUE, 647}, {Integer.MIN_VALUE, 352}};
        for (int[] row : penalties) {
            c.is("PENALTY of " + row[0], row[1], () -> new WorstPaths(0, 1, row[0]).count(7));
        }
        WorstPaths x = new WorstPaths(0, 1, 0);
        for (int what = 0; what <= 4; what++) {
            int asked = what;
            c.is("count(" + what + ") of a new object", 0, () -> x.count(asked));
        }
        c.unsupported("worst of nothing", () -> x.worst());
        c.unsupported("best of nothing", () -> x.best());
        c.unsupported("way of nothing", () -> x.way(0, 0));
        c.index("time of nothing", () -> x.time(0, 0));
        c.same("NONE", WorstPaths.NONE, -1);
        c.end();
    }
}
