import java.util.concurrent.Callable;

/** What the tests share: each compares answers, prints those that are not due, and ends with 1 then. */
final class Checks {
    private int made = 0;
    private int wrong = 0;

    /** A call's answer, or "throws." and the exact name of what it throws. */
    static String outcome(Callable<? extends Number> call) {
        try {
            return String.valueOf(call.call().longValue());
        } catch (Throwable thrown) {
            return "throws." + thrown.getClass().getSimpleName();
        }
    }

    void same(String what, Object got, Object want) {
        made++;
        if (!String.valueOf(want).equals(String.valueOf(got))) {
            wrong++;
            System.out.println(what + " answered " + got + ", due is " + want);
        }
    }

    void is(String what, long want, Callable<? extends Number> call) {
        same(what, outcome(call), String.valueOf(want));
    }

    /** The exact class counts: a subclass would be thrown by the machine, not by the program. */
    void fails(String what, Class<? extends Throwable> want, Callable<? extends Number> call) {
        same(what, outcome(call), "throws." + want.getSimpleName());
    }

    void index(String what, Callable<? extends Number> call) {
        fails(what, IndexOutOfBoundsException.class, call);
    }

    void argument(String what, Callable<? extends Number> call) {
        fails(what, IllegalArgumentException.class, call);
    }

    void unsupported(String what, Callable<? extends Number> call) {
        fails(what, UnsupportedOperationException.class, call);
    }

    /** A program of blocks with these times, in a cache of one set with two lines, penalty 10. */
    static WorstPaths blocks(int... times) {
        WorstPaths x = new WorstPaths(0, 2, 10);
        for (int time : times) {
            x.block(time);
        }
        return x;
    }

    static void touchAll(WorstPaths x, int block, int... lines) {
        for (int line : lines) {
            x.touch(block, line);
        }
    }

    /** The edges of a way, up to its end. */
    static String wayOf(WorstPaths x, int what) {
        StringBuilder text = new StringBuilder();
        int edge = x.way(what, 0);
        for (int k = 1; edge != WorstPaths.NONE; k++) {
            text.append(text.length() == 0 ? "" : " ").append(edge);
            edge = x.way(what, k);
        }
        return text.toString();
    }

    void end() {
        System.out.println("  " + made + " checks, " + wrong + " wrong");
        if (made == 0 || wrong != 0) {
            System.exit(1);
        }
    }
}
