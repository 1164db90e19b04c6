/** Promise 2. */
public final class BlockTest {
    public static void main(String[] args) {
        Checks c = new Checks();
        WorstPaths x = new WorstPaths(0, 1, 0);
        c.argument("block(-1)", () -> x.block(-1));
        c.argument("block(100001)", () -> x.block(100001));
        c.argument("block(least int)", () -> x.block(Integer.MIN_VALUE));
        c.is("blocks after wrong ones", 0, () -> x.count(0));
        c.is("block(100000)", 0, () -> x.block(100000));
        c.is("its time", 100000, () -> x.worst());
        c.is("block(0)", 1, () -> x.block(0));
        for (int i = 2; i < 40; i++) {
            int number = i;
            c.is("block " + i, number, () -> x.block(number));
        }
        c.is("forty", 40, () -> x.count(0));
        c.unsupported("the 41st", () -> x.block(1));
        c.argument("the time is looked at first", () -> x.block(-1));
        c.is("still forty", 40, () -> x.count(0));
        c.is("time of the last", 39, () -> x.time(39, 0));
        c.end();
    }
}
