import java.util.Random;
import java.util.concurrent.Callable;

/** All promises: random runs of calls, each answer compared with the one of the model. */
public final class OracleTest {
    private static final int CALLS = 512;

    private final Checks checks;
    private final Random random;
    private final int run;
    private final WorstPaths x;
    private final Model model;
    // How far a run goes: blocks, edges, lines that it draws from, and how often it draws wrongly.
    private final int mostBlocks;
    private final int mostEdges;
    private final int mostLines;
    private final int mostBound;
    private final int wrongInHundred;
    private final boolean mostlyForward;

    private OracleTest(Checks checks, int run) {
        this.checks = checks;
        this.run = run;
        random = new Random(run);
        int sets = random.nextInt(20) - 10;
        int ways = random.nextInt(20) - 10;
        int penalty = random.nextInt(4000) - 2000;
        x = new WorstPaths(sets, ways, penalty);
        model = new Model(sets, ways, penalty);
        mostBlocks = new int[] {2, 4, 6, 12, 45}[random.nextInt(5)];
        mostEdges = mostBlocks * (1 + random.nextInt(3));
        mostLines = new int[] {3, 6, 12, 60}[random.nextInt(4)];
        mostBound = new int[] {1, 2, 3, 15}[random.nextInt(4)];
        wrongInHundred = random.nextInt(8);
        mostlyForward = random.nextInt(4) > 0;
    }

    private boolean byChance(int inHundred) {
        return random.nextInt(100) < inHundred;
    }

    // One below n, or now and then one that is not.
    private int below(int n) {
        if (n == 0 || byChance(wrongInHundred)) {
            int[] wrong = {-1, n, n + 1, Integer.MIN_VALUE, Integer.MAX_VALUE};
            return wrong[random.nextInt(wrong.length)];
        }
        return random.nextInt(n);
    }

    private int someTime() {
        if (byChance(wrongInHundred)) {
            return new int[] {-1, 100001, 0, 100000}[random.nextInt(4)];
        }
        return byChance(30) ? random.nextInt(3) : random.nextInt(50);
    }

    private int someLine() {
        return random.nextInt(mostLines) - mostLines / 3;
    }

    private void compare(String call, Callable<? extends Number> got, Callable<? extends Number> want) {
        checks.same("run " + run + ": " + call, Checks.outcome(got), Checks.outcome(want));
    }

    private void block() {
        int time = someTime();
        compare("block(" + time + ")", () -> x.block(time), () -> model.block(time));
    }

    private void touch() {
        int b = below(model.count(0));
        int line = someLine();
        compare("touch(" + b + ", " + line + ")", () -> x.touch(b, line), () -> model.touch(b, line));
    }

    private void edge() {
        int a = below(model.count(0));
        int b = below(model.count(0));
        boolean turn = mostlyForward && a > b && !byChance(10);
        int from = turn ? b : a;
        int to = turn ? a : b;
        compare("edge(" + from + ", " + to + ")", () -> x.edge(from, to), () -> model.edge(from, to));
        if (from >= to && byChance(90)) {
            bound(model.count(1) - 1);
        }
    }

    private void bound(int e) {
        int n = byChance(wrongInHundred) ? random.nextInt(20) - 3
                : byChance(40) ? -1 : random.nextInt(mostBound + 1);
        compare("bound(" + e + ", " + n + ")", () -> x.bound(e, n), () -> model.bound(e, n));
    }

    private void pair() {
        int a = below(model.count(1));
        int b = below(model.count(1));
        compare("pair(" + a + ", " + b + ")", () -> x.pair(a, b), () -> model.pair(a, b));
    }

    private void times() {
        compare("worst()", () -> x.worst(), () -> model.worst());
        compare("best()", () -> x.best(), () -> model.best());
    }

    private void way() {
        int what = below(2);
        for (int k = random.nextInt(4) - 1, i = 0; i < 4; k += 1 + random.nextInt(3), i++) {
            int asked = k;
            compare("way(" + what + ", " + k + ")", () -> x.way(what, asked), () -> model.way(what, asked));
        }
    }

    private void touches() {
        int b = below(model.count(0));
        for (int i = 0; i < 6; i++) {
            int asked = byChance(wrongInHundred) ? -1 : i;
            compare("touches(" + b + ", " + asked + ")", () -> x.touches(b, asked), () -> model.touches(b, asked));
        }
    }

    private void age() {
        int b = below(model.count(0));
        int what = below(2);
        for (int i = 0; i < 6; i++) {
            int line = someLine();
            compare("age(" + b + ", " + line + ", " + what + ")", () -> x.age(b, line, what),
                    () -> model.age(b, line, what));
        }
    }

    private void time() {
        int b = below(model.count(0));
        int what = below(2);
        compare("time(" + b + ", " + what + ")", () -> x.time(b, what), () -> model.time(b, what));
    }

    private void count() {
        int what = random.nextInt(11) - 1;
        compare("count(" + what + ")", () -> x.count(what), () -> model.count(what));
    }

    private void change() {
        int kind = random.nextInt(100);
        if (kind < 25 && (model.count(0) < mostBlocks || byChance(2))) {
            block();
        } else if (kind < 60 && (model.count(1) < mostEdges || byChance(2))) {
            edge();
        } else if (kind < 75) {
            touch();
        } else if (kind < 96) {
            bound(below(model.count(1)));
        } else {
            pair();
        }
    }

    private void ask() {
        switch (random.nextInt(7)) {
            case 0, 1 -> times();
            case 2 -> way();
            case 3 -> touches();
            case 4 -> age();
            case 5 -> time();
            default -> count();
        }
    }

    private void wholeWays() {
        if (Checks.outcome(() -> model.worst()).startsWith("throws")) {
            return;
        }
        for (int what = 0; what < 2; what++) {
            int asked = what;
            int edge = 0;
            for (int k = 0; edge != -1; k++) {
                int place = k;
                edge = model.way(what, k);
                compare("way(" + what + ", " + k + ")", () -> x.way(asked, place), () -> model.way(asked, place));
            }
        }
    }

    private void go() {
        for (int i = 0; i < mostBlocks / 2; i++) {
            block();
        }
        for (int i = 0; i < CALLS / 4; i++) {
            if (byChance(60)) {
                change();
            } else {
                ask();
            }
        }
        wholeWays();
    }

    public static void main(String[] args) {
        int runs = args.length > 0 ? Integer.parseInt(args[0]) : 600;
        int first = args.length > 1 ? Integer.parseInt(args[1]) : 0;
        Checks checks = new Checks();
        int answers = 0;
        int byRecursion = 0;
        for (int run = first; run < first + runs; run++) {
            OracleTest test = new OracleTest(checks, run);
            test.go();
            answers += test.model.answers;
            byRecursion += test.model.byRecursion;
        }
        System.out.println("  " + answers + " programs with an answer, " + byRecursion + " with many ways");
        checks.same("there were programs with an answer", answers > runs && byRecursion > 0, true);
        checks.end();
    }
}
