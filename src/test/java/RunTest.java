/** Promise 4: the steps of a call; what a step does stands in StepTest. */
public final class RunTest {
    private static final String PROMISE = "Promise 4";

    public static void main(String[] args) {
        sentences();
        Due.end();
    }

    static void sentences() {
        Due.holds(PROMISE, "n steps, n 0 .. 400:", RunTest::steps);
        Due.holds(PROMISE, "how many of them were idle;", RunTest::howManyIdle);
        Due.holds(PROMISE, "-1 if n is another number.", RunTest::anotherNumber);
    }

    private static void steps() {
        for (int n : new int[] {0, 1, 2, 39, 399, 400}) {
            ProcessTurns x = Due.with(1, 1, 4, 0, 8, 0);
            x.start(0, 0, 0);
            Due.is("run(" + n + ")", x.run(n), 0);
            Due.is("clock behind run(" + n + ")", x.clock(), n);
            Due.is("place behind run(" + n + ")", x.look(0, 1), n % 3);
            Due.is("state behind run(" + n + ")", x.state(0), n == 0 ? 1 : 2);
        }
    }

    private static void howManyIdle() {
        ProcessTurns x = new ProcessTurns();
        Due.is("no step, run(0)", x.run(0), 0);
        Due.is("all idle, run(1)", x.run(1), 1);
        Due.is("all idle, run(400)", x.run(400), 400);
        x = Due.with(1, 10, 13, 0);
        x.start(0, 0, 0);
        Due.is("none idle", x.run(2), 0);
        Due.is("idle till the time 10, then a STOP", x.run(9), 8);
        Due.is("idle at the end", x.run(3), 3);
        x = Due.with(1, 10, 13, 0);
        x.start(0, 0, 0);
        Due.is("idle in the middle", x.run(400), 400 - 3);
    }

    private static void anotherNumber() {
        ProcessTurns x = new ProcessTurns();
        x.start(0, 0, 0);
        for (int n : new int[] {Due.MIN, -2, -1, 401, 402, Due.MAX}) {
            Due.is("run(" + n + ")", x.run(n), -1);
        }
        Due.is("no step was done", x.clock(), 0);
    }
}
