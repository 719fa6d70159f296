/** Promise 4: what each instruction does that needs no channel and no time. */
public final class InstructionsTest {
    private static final int MIN = Integer.MIN_VALUE;
    private static final int MAX = Integer.MAX_VALUE;

    public static void main(String[] args) {
        stop();
        putAndWords();
        arithmetic();
        greater();
        jumpIfZero();
        clockIsPut();
        startOfAnother();
        startWhereNoneIsFree();
        endOfAProcess();
        Due.end();
    }

    /** A process with A = a, B = 20, C = 30 that has done one op. */
    private static ProcessTurns after(int op, int k, int a) {
        ProcessTurns x = Due.with(1, 20, 1, a, op, k);
        x.start(0, 0, 30);
        x.run(3);
        return x;
    }

    private static void stop() {
        ProcessTurns x = after(0, 9, 10);
        Due.is("state", x.state(0), 5);
        Due.is("running", x.running(), -1);
        Due.registers("STOP", x, 0, 2, 10, 20, 30);
        Due.is("a stopped one stays so", x.run(5), 5);
        Due.is("state", x.state(0), 5);
        x = new ProcessTurns();
        x.start(1, 7, 1);
        Due.is("not idle", x.run(1), 0);
        Due.is("behind the last", x.state(0), 5);
        Due.registers("behind the last", x, 0, 7, 1, 0, 0);
        x.add(1, 1);
        Due.is("stays stopped", x.run(1), 1);
    }

    private static void putAndWords() {
        ProcessTurns x = after(1, MIN, 10);
        Due.registers("put", x, 0, 3, MIN, 10, 20);
        Due.is("goes on", x.state(0), 2);
        for (int k = 0; k < 4; k++) {
            x = Due.with(1, 20, 1, 10, 3, k, 2, k, 2, 3 - k);
            x.start(0, 0, 30);
            x.run(3);
            Due.registers("word " + k, x, 0, 3, 20, 30, 30);
            for (int word = 0; word < 4; word++) {
                Due.is("word " + word, x.look(0, 5 + word), word == k ? 10 : 0);
            }
            x.run(1);
            Due.registers("load " + k, x, 0, 4, 10, 20, 30);
            x.run(1);
            Due.registers("load another", x, 0, 5, 0, 10, 20);
            Due.is("word stays", x.look(0, 5 + k), 10);
        }
    }

    private static void arithmetic() {
        Due.registers("plus", after(4, 0, 10), 0, 3, 30, 30, 30);
        Due.registers("minus", after(5, 0, 11), 0, 3, 9, 30, 30);
        Due.registers("times", after(6, 0, 10), 0, 3, 200, 30, 30);
        Due.registers("plus wraps", after(4, 0, MAX), 0, 3, MIN + 19, 30, 30);
        Due.registers("minus wraps", after(5, 0, MIN), 0, 3, MIN + 20, 30, 30);
        Due.registers("times wraps", after(6, 0, MAX), 0, 3, -20, 30, 30);
    }

    private static void greater() {
        Due.registers("greater", after(7, 0, 19), 0, 3, 1, 30, 30);
        Due.registers("equal", after(7, 0, 20), 0, 3, 0, 30, 30);
        Due.registers("less", after(7, 0, 21), 0, 3, 0, 30, 30);
        Due.registers("no wrapping", after(7, 0, MIN), 0, 3, 1, 30, 30);
        Due.registers("no wrapping", after(7, 0, MAX), 0, 3, 0, 30, 30);
    }

    private static void jumpIfZero() {
        Due.registers("zero", after(9, 39, 0), 0, 39, 0, 20, 30);
        Due.registers("not zero", after(9, 39, 1), 0, 3, 20, 30, 30);
        Due.registers("not zero", after(9, 39, -1), 0, 3, 20, 30, 30);
        Due.registers("jump", after(8, 39, 1), 0, 39, 1, 20, 30);
    }

    private static void clockIsPut() {
        Due.registers("clock", after(12, 77, 10), 0, 3, 2, 10, 20);
        ProcessTurns x = Due.with(12, 0);
        x.setClock(MIN);
        x.start(1, 0, 0);
        x.run(1);
        Due.is("clock before it moves on", x.look(0, 2), MIN);
    }

    private static void startOfAnother() {
        ProcessTurns x = after(14, 79, 10);
        Due.registers("starter", x, 0, 3, 1, 10, 20);
        Due.registers("started", x, 1, 39, 10, 0, 0);
        Due.is("odd is low", x.look(1, 0), 1);
        Due.is("started is ready", x.state(1), 1);
        Due.row("low", x, 1, 1);
        Due.row("high", x, 0);
        x = after(14, 78, 10);
        Due.registers("started", x, 1, 39, 10, 0, 0);
        Due.is("even is high", x.look(1, 0), 0);
        Due.row("high", x, 0, 1);
        Due.is("starter runs on", x.running(), 0);
        x = after(14, 0, 10);
        Due.registers("started", x, 1, 0, 10, 0, 0);
        Due.is("even is high", x.look(1, 0), 0);
        x = after(14, 1, 10);
        Due.registers("started", x, 1, 0, 10, 0, 0);
        Due.is("odd is low", x.look(1, 0), 1);
    }

    private static void startWhereNoneIsFree() {
        ProcessTurns x = Due.with(14, 3, 0, 0);
        x.start(0, 0, 5);
        for (int p = 1; p < 8; p++) {
            x.start(1, 1, 0);
        }
        x.run(1);
        Due.registers("none free", x, 0, 1, -1, 5, 0);
        Due.row("low", x, 1, 1, 2, 3, 4, 5, 6, 7);
        Due.is("state", x.state(0), 2);
    }

    private static void endOfAProcess() {
        ProcessTurns x = after(15, 0, 10);
        Due.is("free", x.state(0), 0);
        Due.is("running", x.running(), -1);
        Due.is("look", x.look(0, 2), Due.NOTHING);
        Due.is("idle then", x.run(1), 1);
    }
}
