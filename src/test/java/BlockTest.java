/** Promise 2. */
public final class BlockTest {
    public static void main(String[] args) {
        Checks c = new Checks();
        c.test("A block more: its number.", BlockTest::itsNumber);
        c.test("IllegalArgumentException, when the time is not 0 .. 100000", BlockTest::timeTooSmall);
        c.test("IllegalArgumentException, when the time is not 0 .. 100000", BlockTest::timeTooLarge);
        c.test("0 .. 100000", BlockTest::timesAtTheEdges);
        c.test("UnsupportedOperationException, when there are forty.", BlockTest::forty);
        c.test("BLOCKS, up to 40, numbered from 0 (where all begins)", BlockTest::fortyAnswer);
        c.end();
    }

    private static void itsNumber(Checks c) {
        WorstPaths x = new WorstPaths(0, 1, 0);
        for (int i = 0; i < 40; i++) {
            int number = i;
            c.is("block " + i, number, () -> x.block(7));
            c.is("blocks", number + 1, () -> x.count(0));
        }
    }

    private static void timeTooSmall(Checks c) {
        refused(c, -1);
        refused(c, -100000);
        refused(c, Integer.MIN_VALUE);
    }

    private static void timeTooLarge(Checks c) {
        refused(c, 100001);
        refused(c, Integer.MAX_VALUE);
    }

    private static void refused(Checks c, int time) {
        WorstPaths x = new WorstPaths(0, 1, 0);
        c.argument("block(" + time + ")", () -> x.block(time));
        c.is("no block by it", 0, () -> x.count(0));
        c.noAnswer("no block by it", x);
        c.is("a right one behind it", 0, () -> x.block(3));
        c.argument("block(" + time + ") again", () -> x.block(time));
        c.is("one block still", 1, () -> x.count(0));
        c.is("its time still", 3, () -> x.time(0, 0));
    }

    private static void timesAtTheEdges(Checks c) {
        int[] times = {0, 1, 99999, 100000};
        for (int time : times) {
            WorstPaths x = new WorstPaths(0, 1, 0);
            c.is("block(" + time + ")", 0, () -> x.block(time));
            c.is("its greatest time", time, () -> x.time(0, 0));
            c.is("its least time", time, () -> x.time(0, 1));
            c.answer("a way", x, time, "", time, "");
        }
    }

    private static void forty(Checks c) {
        WorstPaths x = new WorstPaths(0, 1, 0);
        for (int i = 0; i < 39; i++) {
            x.block(i);
        }
        c.is("the fortieth", 39, () -> x.block(39));
        c.unsupported("the 41st", () -> x.block(1));
        c.unsupported("the 41st again", () -> x.block(0));
        c.unsupported("the 41st with the greatest time", () -> x.block(100000));
        c.is("still forty", 40, () -> x.count(0));
        c.is("time of the last", 39, () -> x.time(39, 0));
        c.index("there is no block 40", () -> x.time(40, 0));
    }

    private static void fortyAnswer(Checks c) {
        WorstPaths x = new WorstPaths(0, 1, 0);
        for (int i = 0; i < 40; i++) {
            x.block(1 + i);
        }
        c.answer("block 0 alone", x, 1, "", 1, "");
        c.is("come to", 1, () -> x.count(4));
        x.edge(0, 39);
        c.answer("the last one", x, 41, "0", 41, "0");
        c.is("come to, with the last one", 2, () -> x.count(4));
        x.touch(39, 9);
        c.is("its touch", 2, () -> x.touches(39, 0));
        c.is("its age", -1, () -> x.age(39, 9, 1));
    }
}
