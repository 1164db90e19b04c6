/** Promise 3. */
public final class TouchTest {
    public static void main(String[] args) {
        Checks c = new Checks();
        c.test("A block touches a line, behind the others: how many.", TouchTest::howMany);
        c.test("TOUCH up to 6 lines, in order", TouchTest::behindTheOthers);
        c.test("IndexOutOfBoundsException, when there is no such block", TouchTest::noSuchBlock);
        c.test("UnsupportedOperationException, when it has six", TouchTest::six);
        c.test("or it would be the 41st line", TouchTest::theFortyFirstLine);
        c.test("LINES are ints, up to 40 different ones", TouchTest::linesAreInts);
        c.end();
    }

    private static void howMany(Checks c) {
        WorstPaths x = Checks.blocks(0, 0);
        c.is("the first", 1, () -> x.touch(0, 5));
        c.is("the same line again", 2, () -> x.touch(0, 5));
        c.is("another line", 3, () -> x.touch(0, 6));
        c.is("another block", 1, () -> x.touch(1, 5));
        c.is("the first block again", 4, () -> x.touch(0, 5));
        c.is("different lines", 2, () -> x.count(3));
    }

    private static void behindTheOthers(Checks c) {
        WorstPaths x = Checks.blocksIn(new WorstPaths(0, 1, 1), 0, 0);
        x.edge(0, 1);
        int[] lines = {1, 1, 2, 1, 1, 3};
        String[] due = {"2", "2 1", "2 1 2", "2 1 2 2", "2 1 2 2 1", "2 1 2 2 1 2"};
        for (int i = 0; i < 6; i++) {
            x.touch(0, lines[i]);
            c.same("after " + lines[i], Checks.touchesOf(x, 0, i + 1), due[i]);
            c.same("it is used last", Checks.agesOf(x, 1, lines[i]), "0/0");
        }
        c.same("the last one is used last", Checks.agesOf(x, 1, 1, 2, 3), "-1/-1 -1/-1 0/0");
    }

    private static void noSuchBlock(Checks c) {
        WorstPaths x = new WorstPaths(0, 4, 1);
        c.index("without blocks", () -> x.touch(0, 1));
        x.block(0);
        x.block(0);
        int[] wrong = {-1, 2, 3, 39, 40, 41, Integer.MIN_VALUE, Integer.MAX_VALUE};
        for (int b : wrong) {
            c.index("touch(" + b + ", ..)", () -> x.touch(b, 1));
        }
        c.is("no line by them", 0, () -> x.count(3));
        c.is("the last block", 1, () -> x.touch(1, 1));
    }

    private static void six(Checks c) {
        WorstPaths x = Checks.blocksIn(new WorstPaths(0, 4, 1), 0, 0);
        for (int i = 1; i <= 5; i++) {
            x.touch(0, i % 3);
        }
        c.is("the sixth", 6, () -> x.touch(0, 7));
        c.unsupported("the seventh", () -> x.touch(0, 7));
        c.unsupported("the seventh, by a new line", () -> x.touch(0, 8));
        c.unsupported("the seventh again", () -> x.touch(0, 8));
        c.is("no line by it", 4, () -> x.count(3));
        c.index("no touch by it", () -> x.touches(0, 6));
        c.is("no time by it", 4, () -> x.time(0, 0));
        c.index("none of the next block", () -> x.touches(1, 0));
        c.is("another block has room", 1, () -> x.touch(1, 8));
        c.is("its line is new", 5, () -> x.count(3));
    }

    private static WorstPaths withLines(int lines) {
        WorstPaths x = Checks.blocksIn(new WorstPaths(0, 4, 1), 0, 0, 0, 0, 0, 0, 0, 0, 0);
        for (int i = 0; i < lines; i++) {
            x.touch(i / 6, 100 + i);
        }
        return x;
    }

    private static void theFortyFirstLine(Checks c) {
        WorstPaths x = withLines(39);
        c.is("39 lines", 39, () -> x.count(3));
        c.is("the fortieth", 4, () -> x.touch(6, 139));
        c.is("forty lines", 40, () -> x.count(3));
        c.unsupported("the 41st", () -> x.touch(6, 140));
        c.unsupported("the 41st again", () -> x.touch(6, 140));
        c.unsupported("in a block without touches", () -> x.touch(8, 99));
        c.index("no touch by it", () -> x.touches(6, 4));
        c.index("nor there", () -> x.touches(8, 0));
        c.is("still forty lines", 40, () -> x.count(3));
        c.is("the last line again", 5, () -> x.touch(6, 139));
        c.is("the first line again", 6, () -> x.touch(6, 100));
        c.is("a line of the middle", 1, () -> x.touch(8, 120));
        c.is("forty lines to the end", 40, () -> x.count(3));
        x.edge(0, 6);
        x.edge(6, 7);
        c.same("the last line is held", Checks.agesOf(x, 7, 139, 100, 140), "1/1 0/0 -1/-1");
    }

    private static void linesAreInts(Checks c) {
        int[] lines = {Integer.MIN_VALUE, Integer.MAX_VALUE, 0, -1};
        WorstPaths x = Checks.blocksIn(new WorstPaths(0, 4, 1), 0, 0);
        x.edge(0, 1);
        Checks.touchAll(x, 0, lines);
        c.is("four of them", 4, () -> x.count(3));
        c.same("none is another", Checks.touchesOf(x, 0, 4), "2 2 2 2");
        c.same("each is there", Checks.agesOf(x, 1, lines), "3/3 2/2 1/1 0/0");
        c.same("others are not", Checks.agesOf(x, 1, 1, -2, Integer.MAX_VALUE - 1), "-1/-1 -1/-1 -1/-1");
        Checks.touchAll(x, 1, lines);
        c.same("each is found again", Checks.touchesOf(x, 1, 4), "1 1 1 1");
        c.is("four of them still", 4, () -> x.count(3));
    }
}
