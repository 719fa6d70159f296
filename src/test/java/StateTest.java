/** Promises 8 and 9. */
public final class StateTest {
    public static void main(String[] args) {
        noSuchProcess();
        everyState();
        runningIsTheStateToo();
        Due.end();
    }

    private static void noSuchProcess() {
        ProcessTurns x = new ProcessTurns();
        for (int p : new int[] {-1, 8, Integer.MIN_VALUE, Integer.MAX_VALUE}) {
            Due.is("state " + p, x.state(p), -1);
        }
        Due.is("state 7", x.state(7), 0);
    }

    private static void everyState() {
        ProcessTurns x = Due.with(10, 0, 11, 1, 13, 0, 0, 0, 15, 0, 8, 5);
        for (int place = 0; place < 6; place++) {
            x.start(1, place, 1000);
        }
        x.start(1, 5, 0);
        Due.is("none runs before a step", x.running(), -1);
        x.run(6);
        int[] want = {3, 3, 4, 5, 0, 2, 1, 0};
        for (int p = 0; p < 8; p++) {
            Due.is("state " + p, x.state(p), want[p]);
        }
        Due.is("running", x.running(), 5);
    }

    private static void runningIsTheStateToo() {
        ProcessTurns x = Due.with(8, 0);
        for (int p = 0; p < 8; p++) {
            x.start(1, 0, 0);
        }
        for (int p = 0; p < 8; p++) {
            x.run(1);
            Due.is("running", x.running(), p);
            Due.is("state", x.state(p), 2);
            x.run(7);
            Due.is("running", x.running(), -1);
            Due.is("state", x.state(p), 1);
        }
    }
}
