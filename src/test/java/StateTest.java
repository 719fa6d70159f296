/** Promises 8 and 9. */
public final class StateTest {
    public static void main(String[] args) {
        sentences();
        Due.end();
    }

    static void sentences() {
        Due.holds("Promise 8", "The process that runs;", StateTest::theProcessThatRuns);
        Due.holds("Promise 8", "-1 if there is none.", StateTest::noneRuns);
        Due.holds("Promise 9", "The state of process p: 0 free, 1 ready, 2 running, 3 waiting at a channel, "
            + "4 waiting for a time, 5 stopped;", StateTest::everyState);
        Due.holds("Promise 9", "-1 if there is none.", StateTest::noSuchProcess);
    }

    private static void theProcessThatRuns() {
        ProcessTurns x = Due.with(8, 0);
        for (int p = 0; p < 8; p++) {
            x.start(1, 0, 0);
        }
        for (int p = 0; p < 8; p++) {
            x.run(1);
            Due.is("running", x.running(), p);
            x.run(6);
            Due.is("running", x.running(), p);
            x.run(1);
        }
    }

    private static void noneRuns() {
        ProcessTurns x = Due.with(1, 1, 15, 0);
        Due.is("all free", x.running(), -1);
        x.start(0, 0, 0);
        Due.is("started, but no step done", x.running(), -1);
        x.run(2);
        Due.is("the only one ended", x.running(), -1);
        x.run(1);
        Due.is("behind an idle step", x.running(), -1);
        x.start(0, 0, 0);
        x.run(1);
        Due.is("one runs", x.running(), 0);
        x.reset();
        Due.is("behind a reset", x.running(), -1);
    }

    private static void everyState() {
        ProcessTurns x = Due.with(10, 0, 11, 1, 13, 0, 0, 0, 15, 0, 8, 5);
        for (int place = 0; place < 6; place++) {
            x.start(1, place, 1000);
        }
        x.start(1, 5, 0);
        Due.states("started", x, 1, 1, 1, 1, 1, 1, 1, 0);
        x.run(6);
        Due.states("each did one instruction", x, 3, 3, 4, 5, 0, 2, 1, 0);
        x.start(1, 5, 0);
        x.start(1, 3, 0);
        Due.states("the last one", x, 3, 3, 4, 5, 1, 2, 1, 1);
    }

    private static void noSuchProcess() {
        ProcessTurns x = new ProcessTurns();
        for (int p = 0; p < 8; p++) {
            x.start(0, 0, 0);
        }
        for (int p : new int[] {Due.MIN, -2, -1, 8, 9, Due.MAX}) {
            Due.is("state(" + p + ")", x.state(p), -1);
        }
        Due.is("state(0)", x.state(0), 1);
        Due.is("state(7)", x.state(7), 1);
    }
}
