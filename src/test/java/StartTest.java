/** Promise 3. */
public final class StartTest {
    public static void main(String[] args) {
        ordinary();
        wrongInputs();
        leastFreeAndNoneFree();
        startedAnewAllElseIsZero();
        startedWhileAnotherRuns();
        Due.end();
    }

    private static void ordinary() {
        ProcessTurns x = new ProcessTurns();
        Due.is("start high", x.start(0, 39, Integer.MIN_VALUE), 0);
        Due.is("start low", x.start(1, 0, 12), 1);
        Due.is("state", x.state(0), 1);
        Due.is("state", x.state(1), 1);
        Due.is("running", x.running(), -1);
        Due.is("clock", x.clock(), 0);
        Due.is("priority", x.look(0, 0), 0);
        Due.is("priority", x.look(1, 0), 1);
        Due.registers("high", x, 0, 39, Integer.MIN_VALUE, 0, 0);
        Due.registers("low", x, 1, 0, 12, 0, 0);
        for (int word = 5; word <= 8; word++) {
            Due.is("word", x.look(0, word), 0);
        }
        Due.is("start high", x.start(0, 3, 0), 2);
        Due.row("high", x, 0, 0, 2);
        Due.row("low", x, 1, 1);
    }

    private static void wrongInputs() {
        ProcessTurns x = new ProcessTurns();
        for (int wrong : new int[] {-1, 2, Integer.MIN_VALUE, Integer.MAX_VALUE}) {
            Due.is("priority " + wrong, x.start(wrong, 0, 0), -1);
        }
        for (int wrong : new int[] {-1, 40, Integer.MIN_VALUE, Integer.MAX_VALUE}) {
            Due.is("place " + wrong, x.start(0, wrong, 0), -1);
            Due.is("place " + wrong, x.start(1, wrong, 0), -1);
        }
        Due.is("state", x.state(0), 0);
        Due.row("refused", x, 0);
        Due.row("refused", x, 1);
    }

    private static void leastFreeAndNoneFree() {
        ProcessTurns x = Due.with(15, 0, 0, 0);
        for (int p = 0; p < 8; p++) {
            Due.is("start", x.start(1, p == 2 || p == 5 ? 0 : 1, 0), p);
        }
        Due.is("none free", x.start(1, 0, 0), -2);
        Due.is("none free", x.start(0, 39, 0), -2);
        Due.is("wrong input before none free", x.start(2, 0, 0), -1);
        Due.is("wrong input before none free", x.start(0, 40, 0), -1);
        Due.row("refused", x, 0);
        Due.row("refused", x, 1, 0, 1, 2, 3, 4, 5, 6, 7);
        x.run(8);
        Due.is("stopped is not free", x.state(0), 5);
        Due.is("least free", x.start(1, 0, 0), 2);
        Due.is("next free", x.start(1, 0, 0), 5);
        Due.is("none free", x.start(1, 0, 0), -2);
    }

    private static void startedAnewAllElseIsZero() {
        ProcessTurns x = Due.with(1, 4, 3, 0, 1, 5, 3, 1, 1, 6, 3, 2, 1, 7, 3, 3, 1, 8, 1, 9, 15, 0);
        x.start(1, 0, 3);
        x.run(10);
        Due.is("words were used", x.look(0, 8), 7);
        Due.registers("before", x, 0, 10, 9, 8, 3);
        x.run(1);
        Due.is("start anew", x.start(0, 4, 1), 0);
        Due.is("priority", x.look(0, 0), 0);
        Due.registers("anew", x, 0, 4, 1, 0, 0);
        for (int word = 5; word <= 8; word++) {
            Due.is("word", x.look(0, word), 0);
        }
    }

    private static void startedWhileAnotherRuns() {
        ProcessTurns x = Due.with(1, 1, 1, 1, 1, 1);
        x.start(1, 0, 0);
        x.run(1);
        Due.is("start high", x.start(0, 0, 0), 1);
        Due.is("the low one runs till the next step", x.running(), 0);
        Due.row("high", x, 0, 1);
        Due.row("low", x, 1);
    }
}
