import java.util.concurrent.Callable;

/** An object that is full in all ways, up to its last call: each answer is the model's. */
public final class LastCallTest {
    private static final int CALLS = 512;

    private final Checks checks;
    private final WorstPaths x = new WorstPaths(2, 4, 999);
    private final Model model = new Model(2, 4, 999);
    private int calls = 0;

    private LastCallTest(Checks checks) {
        this.checks = checks;
    }

    private void call(String what, Callable<? extends Number> got, Callable<? extends Number> want) {
        calls++;
        checks.same("call " + calls + ", " + what, Checks.outcome(got), Checks.outcome(want));
    }

    private void edge(int from, int to) {
        call("edge(" + from + ", " + to + ")", () -> x.edge(from, to), () -> model.edge(from, to));
    }

    private void bound(int e, int n) {
        call("bound(" + e + ", " + n + ")", () -> x.bound(e, n), () -> model.bound(e, n));
    }

    private void pair(int a, int b) {
        call("pair(" + a + ", " + b + ")", () -> x.pair(a, b), () -> model.pair(a, b));
    }

    private void askForTimes() {
        call("worst()", x::worst, model::worst);
        call("best()", x::best, model::best);
    }

    // Forty blocks in a row with edges to the next one and the next but one, and three back.
    private void fill() {
        for (int b = 0; b < 40; b++) {
            int time = b * 2500;
            call("block(" + time + ")", () -> x.block(time), () -> model.block(time));
        }
        for (int i = 0; i < 240; i++) {
            int b = i / 6;
            int line = i < 40 ? i : i * i * 7 % 40;
            call("touch(" + b + ", " + line + ")", () -> x.touch(b, line), () -> model.touch(b, line));
        }
        for (int b = 0; b < 39; b++) {
            edge(b, b + 1);
        }
        for (int b = 0; b < 38; b++) {
            edge(b, b + 2);
        }
        edge(20, 5);
        edge(30, 10);
        edge(38, 0);
        bound(77, 14);
        bound(78, 0);
        bound(79, 0);
        pair(3, 45);
        pair(10, 60);
        pair(70, 25);
    }

    // Behind forty blocks, edges .. there is no room: all of these throw.
    private void refuse() {
        call("block", () -> x.block(1), () -> model.block(1));
        call("touch", () -> x.touch(0, 1), () -> model.touch(0, 1));
        call("edge", () -> x.edge(0, 1), () -> model.edge(0, 1));
        call("pair", () -> x.pair(0, 1), () -> model.pair(0, 1));
    }

    private void ask(int i) {
        int b = i % 40;
        int what = i % 2;
        switch (i % 5) {
            case 0 -> call("way(" + what + ", " + i + ")", () -> x.way(what, i), () -> model.way(what, i));
            case 1 -> call("touches(" + b + ", 5)", () -> x.touches(b, 5), () -> model.touches(b, 5));
            case 2 -> call("age(" + b + ", " + i + ")", () -> x.age(b, i % 40, what),
                    () -> model.age(b, i % 40, what));
            case 3 -> call("time(" + b + ")", () -> x.time(b, what), () -> model.time(b, what));
            default -> call("count(" + i % 9 + ")", () -> x.count(i % 9), () -> model.count(i % 9));
        }
    }

    private void go() {
        fill();
        askForTimes();
        refuse();
        askForTimes();
        for (int i = 0; calls < CALLS - 3; i++) {
            ask(i);
        }
        bound(77, 13);
        askForTimes();
        checks.same("calls", calls, CALLS);
        checks.same("the last answer is one", Checks.outcome(model::best).startsWith("throws"), false);
    }

    public static void main(String[] args) {
        Checks checks = new Checks();
        checks.test("An object is used for at most 512 calls after it has been made",
                c -> new LastCallTest(c).go());
        checks.end();
    }
}
