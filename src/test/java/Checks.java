import java.util.concurrent.Callable;
import java.util.function.Consumer;

/**
 * What the tests share: each compares answers, prints those that are not due, and ends with 1 then.
 * A test that bears a sentence of the document must check something, and fails alone.
 */
final class Checks {
    private int sentences = 0;
    private int made = 0;
    private int wrong = 0;
    private String sentence = "";

    /** A call's answer, or "throws." and the exact name of what it throws. */
    static String outcome(Callable<? extends Number> call) {
        try {
            return String.valueOf(call.call().longValue());
        } catch (Throwable thrown) {
            return "throws." + thrown.getClass().getSimpleName();
        }
    }

    /** The test of a sentence, or of a part of one, in the document's words. */
    void test(String words, Consumer<Checks> body) {
        sentences++;
        sentence = "[" + words + "] ";
        int before = made;
        try {
            body.accept(this);
            if (made == before) {
                same("checks", 0, "some");
            }
        } catch (RuntimeException thrown) {
            // Of what has been called without a check: the tests behind this one go on.
            same("a call that is right", thrown, "an answer");
        }
        sentence = "";
    }

    void same(String what, Object got, Object want) {
        made++;
        if (!String.valueOf(want).equals(String.valueOf(got))) {
            wrong++;
            System.out.println(sentence + what + " answered " + got + ", due is " + want);
        }
    }

    void is(String what, long want, Callable<? extends Number> call) {
        same(what, outcome(call), String.valueOf(want));
    }

    /** The exact class counts: a subclass would be thrown by the machine, not by the program. */
    void fails(String what, Class<? extends Throwable> want, Callable<? extends Number> call) {
        same(what, outcome(call), "throws." + want.getSimpleName());
    }

    void index(String what, Callable<? extends Number> call) {
        fails(what, IndexOutOfBoundsException.class, call);
    }

    void argument(String what, Callable<? extends Number> call) {
        fails(what, IllegalArgumentException.class, call);
    }

    void unsupported(String what, Callable<? extends Number> call) {
        fails(what, UnsupportedOperationException.class, call);
    }

    /** What all three questions for ways say when there is no answer. */
    void noAnswer(String what, WorstPaths x) {
        unsupported(what + ": worst()", x::worst);
        unsupported(what + ": best()", x::best);
        unsupported(what + ": way(0, 0)", () -> x.way(0, 0));
        unsupported(what + ": way(1, 0)", () -> x.way(1, 0));
    }

    /** An answer to all three questions for ways: both times, and both ways as their edges. */
    void answer(String what, WorstPaths x, long worst, String worstWay, long best, String bestWay) {
        is(what + ": worst()", worst, x::worst);
        is(what + ": best()", best, x::best);
        same(what + ": the greatest way", wayOf(x, 0), worstWay);
        same(what + ": the least way", wayOf(x, 1), bestWay);
    }

    /** A program of blocks with these times, in a cache of one set with two lines, penalty 10. */
    static WorstPaths blocks(int... times) {
        return blocksIn(new WorstPaths(0, 2, 10), times);
    }

    static WorstPaths blocksIn(WorstPaths x, int... times) {
        for (int time : times) {
            x.block(time);
        }
        return x;
    }

    static void touchAll(WorstPaths x, int block, int... lines) {
        for (int line : lines) {
            x.touch(block, line);
        }
    }

    /** Edges from each block to the next one in this row. */
    static void edgesAlong(WorstPaths x, int... row) {
        for (int i = 0; i + 1 < row.length; i++) {
            x.edge(row[i], row[i + 1]);
        }
    }

    /** The edges of a way, up to its end; what it throws, when it does. */
    static String wayOf(WorstPaths x, int what) {
        StringBuilder text = new StringBuilder();
        for (int k = 0; k < 3000; k++) {
            int place = k;
            String edge = outcome(() -> x.way(what, place));
            if (edge.equals("-1")) {
                return text.toString();
            }
            text.append(k == 0 ? "" : " ").append(edge);
            if (edge.startsWith("throws")) {
                return text.toString();
            }
        }
        return text + " and no end";
    }

    /** What the first touches of a block do. */
    static String touchesOf(WorstPaths x, int block, int touches) {
        StringBuilder text = new StringBuilder();
        for (int i = 0; i < touches; i++) {
            int place = i;
            text.append(i == 0 ? "" : " ").append(outcome(() -> x.touches(block, place)));
        }
        return text.toString();
    }

    /** Greatest and least age of lines where a block begins, as "greatest/least". */
    static String agesOf(WorstPaths x, int block, int... lines) {
        StringBuilder text = new StringBuilder();
        for (int line : lines) {
            text.append(text.length() == 0 ? "" : " ");
            text.append(outcome(() -> x.age(block, line, 0))).append("/");
            text.append(outcome(() -> x.age(block, line, 1)));
        }
        return text.toString();
    }

    void end() {
        String ofSentences = sentences == 0 ? "" : sentences + " sentences, ";
        System.out.println("  " + ofSentences + made + " checks, " + wrong + " wrong");
        if (made == 0 || wrong != 0) {
            System.exit(1);
        }
    }
}
