/** The terms of the cache: sets, lines, by last use, and what ages go from and to. */
public final class CacheTest {
    private static final int MOST = Integer.MAX_VALUE;
    private static final int LEAST = Integer.MIN_VALUE;

    public static void main(String[] args) {
        Checks c = new Checks();
        c.test("THE CACHE has S sets (1, 2 or 4; a line's set is its lowest bits)", CacheTest::oneSet);
        c.test("THE CACHE has S sets (1, 2 or 4; a line's set is its lowest bits)", CacheTest::twoSets);
        c.test("THE CACHE has S sets (1, 2 or 4; a line's set is its lowest bits)",
                CacheTest::fourSets);
        c.test("of W lines (1 .. 4), by last use", CacheTest::byLastUse);
        c.test("it is empty at first", CacheTest::emptyAtFirst);
        c.test("AGES go from 0 (used last) to W - 1.", CacheTest::agesFromAndTo);
        c.test("A touch HITS (1), when its line is surely there then", CacheTest::hits);
        c.test("MISSES (2), when it can not be there", CacheTest::misses);
        c.test("else it is OPEN (0)", CacheTest::open);
        c.end();
    }

    private static WorstPaths oneBlock(int sets, int ways, int... lines) {
        WorstPaths x = Checks.blocksIn(new WorstPaths(sets, ways, 10), 0);
        Checks.touchAll(x, 0, lines);
        return x;
    }

    private static void touchesAre(Checks c, String due, int sets, int ways, int... lines) {
        WorstPaths x = oneBlock(sets, ways, lines);
        c.same(java.util.Arrays.toString(lines) + " in sets " + sets + ", ways " + ways,
                Checks.touchesOf(x, 0, lines.length), due);
    }

    private static void oneSet(Checks c) {
        touchesAre(c, "2 2 2 2 2 2", 0, 1, 0, 1, 0, 2, 0, 3);
        touchesAre(c, "2 2 2 2 2 2", 0, 1, -1, MOST, -1, LEAST, -1, 0);
    }

    private static void twoSets(Checks c) {
        touchesAre(c, "2 2 1 1 2 2", 1, 1, 0, 1, 0, 1, 2, 0);
        touchesAre(c, "2 2 1 1 2 2", 1, 1, 5, 8, 5, 8, 7, 5);
        touchesAre(c, "2 2 1 2 1 2", 1, 1, -1, -2, -1, 1, -2, -1);
        touchesAre(c, "2 2 1 1 2 2", 1, 1, MOST, LEAST, MOST, LEAST, 0, LEAST);
    }

    private static void fourSets(Checks c) {
        touchesAre(c, "2 2 2 2 1 2", 2, 1, 0, 1, 2, 3, 0, 4);
        touchesAre(c, "2 2 1 2 2 2", 2, 1, 1, 3, 1, 5, 1, 7);
        touchesAre(c, "2 2 2 2 1 1", 2, 1, -1, -2, -3, -4, -1, -4);
        touchesAre(c, "2 2 2 2 2 2", 2, 1, -1, 3, -1, MOST, 3, 7);
        touchesAre(c, "2 2 2 2 2 2", 2, 1, LEAST, 0, LEAST, -4, 4, 0);
        touchesAre(c, "2 2 1 2 1 2", 2, 1, LEAST, MOST, LEAST, 1, MOST, -1);
    }

    private static void byLastUse(Checks c) {
        touchesAre(c, "2 1 2 2 1 2", 0, 1, 1, 1, 2, 1, 1, 2);
        touchesAre(c, "2 2 1 2 1 2", 0, 2, 1, 2, 1, 3, 1, 2);
        touchesAre(c, "2 2 2 1 2 2", 0, 3, 1, 2, 3, 1, 4, 2);
        touchesAre(c, "2 2 2 1 2 1", 0, 3, 1, 2, 3, 1, 4, 3);
        touchesAre(c, "2 2 2 2 1 1", 0, 4, 1, 2, 3, 4, 1, 2);
        touchesAre(c, "2 2 2 2 2 2", 0, 4, 1, 2, 3, 4, 5, 1);
        touchesAre(c, "2 2 2 2 2 1", 0, 4, 1, 2, 3, 4, 5, 2);
        // Each set has W lines of its own.
        touchesAre(c, "2 2 2 2 1 1", 1, 2, 1, 2, 3, 4, 1, 2);
        touchesAre(c, "2 2 2 2 2 1", 1, 2, 1, 2, 3, 5, 1, 2);
    }

    private static void emptyAtFirst(Checks c) {
        for (int ways = 1; ways <= 4; ways++) {
            WorstPaths x = oneBlock(0, ways, 0);
            c.same("ages, ways " + ways, Checks.agesOf(x, 0, 0), "-1/-1");
            c.is("a first touch, ways " + ways, 2, () -> x.touches(0, 0));
            c.is("its cost for sure, ways " + ways, 10, x::best);
        }
    }

    private static void agesFromAndTo(Checks c) {
        String[] due = {"0/0 -1/-1 -1/-1 -1/-1 -1/-1", "0/0 1/1 -1/-1 -1/-1 -1/-1",
            "0/0 1/1 2/2 -1/-1 -1/-1", "0/0 1/1 2/2 3/3 -1/-1"};
        for (int ways = 1; ways <= 4; ways++) {
            WorstPaths x = Checks.blocksIn(new WorstPaths(0, ways, 1), 0, 0);
            x.edge(0, 1);
            Checks.touchAll(x, 0, 5, 4, 3, 2, 1);
            c.same("ways " + ways, Checks.agesOf(x, 1, 1, 2, 3, 4, 5), due[ways - 1]);
        }
    }

    /** Block 1 or block 2 leads from block 0 to block 3: block 1 touches 1 and 2, block 2 1 and 3. */
    private static WorstPaths fork(int ways) {
        WorstPaths x = Checks.blocksIn(new WorstPaths(0, ways, 10), 0, 0, 0, 0);
        Checks.edgesAlong(x, 0, 1, 3);
        Checks.edgesAlong(x, 0, 2, 3);
        Checks.touchAll(x, 1, 1, 2);
        Checks.touchAll(x, 2, 1, 3);
        return x;
    }

    private static void hits(Checks c) {
        WorstPaths x = fork(2);
        x.touch(3, 1);
        c.is("there by both", 1, () -> x.touches(3, 0));
        c.is("costs nothing, greatest", 0, () -> x.time(3, 0));
        c.is("costs nothing, least", 0, () -> x.time(3, 1));
        WorstPaths y = fork(2);
        Checks.touchAll(y, 3, 9, 1, 9);
        c.same("surely there no more, and just touched", Checks.touchesOf(y, 3, 3), "2 2 1");
        WorstPaths z = fork(2);
        Checks.touchAll(z, 3, 2, 1, 1);
        c.same("there by one alone, and just touched", Checks.touchesOf(z, 3, 3), "0 0 1");
    }

    private static void misses(Checks c) {
        WorstPaths x = fork(1);
        x.touch(3, 1);
        c.is("put out by both", 2, () -> x.touches(3, 0));
        c.is("costs a penalty, greatest", 10, () -> x.time(3, 0));
        c.is("costs a penalty, least", 10, () -> x.time(3, 1));
        WorstPaths y = fork(2);
        Checks.touchAll(y, 3, 8, 9, 2);
        c.same("never touched, and put out", Checks.touchesOf(y, 3, 3), "2 2 2");
    }

    private static void open(Checks c) {
        WorstPaths x = fork(2);
        x.touch(3, 2);
        c.is("there by one", 0, () -> x.touches(3, 0));
        c.is("costs a penalty, greatest", 10, () -> x.time(3, 0));
        c.is("costs nothing, least", 0, () -> x.time(3, 1));
        WorstPaths y = fork(3);
        Checks.touchAll(y, 3, 2, 3, 1);
        c.same("the second of them may put out the third", Checks.touchesOf(y, 3, 3), "0 0 0");
    }
}
