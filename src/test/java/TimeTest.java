/** Promise 12. */
public final class TimeTest {
    public static void main(String[] args) {
        Checks c = new Checks();
        WorstPaths x = Checks.blocks(3, 5);
        c.index("time(-1, 0)", () -> x.time(-1, 0));
        c.index("time(2, 0)", () -> x.time(2, 0));
        c.index("time(0, 2)", () -> x.time(0, 2));
        c.index("time(0, -1)", () -> x.time(0, -1));
        c.is("without touches", 3, () -> x.time(0, 0));
        Checks.touchAll(x, 0, 1, 1, 2);
        c.is("two misses, a hit", 23, () -> x.time(0, 0));
        c.is("for sure", 23, () -> x.time(0, 1));
        Checks.touchAll(x, 1, 1, 8, 2);
        c.is("not come to", 5, () -> x.time(1, 0));
        c.is("not come to, least", 5, () -> x.time(1, 1));
        x.edge(0, 1);
        c.is("a hit, two misses", 25, () -> x.time(1, 0));
        c.is("a hit, two misses for sure", 25, () -> x.time(1, 1));
        x.edge(1, 1);
        c.is("an open one, two misses: greatest", 35, () -> x.time(1, 0));
        c.is("an open one, two misses: least", 25, () -> x.time(1, 1));
        WorstPaths y = new WorstPaths(0, 1, 999);
        y.block(100000);
        Checks.touchAll(y, 0, 1, 2, 3, 4, 5, 6);
        c.is("the greatest of all", 105994, () -> y.time(0, 0));
        c.end();
    }
}
