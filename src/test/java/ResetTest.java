/** Promise 6. */
public final class ResetTest {
    private static final String PROMISE = "Promise 6";

    public static void main(String[] args) {
        sentences();
        Due.end();
    }

    static void sentences() {
        Due.holds(PROMISE, "Stops all that is going on: all processes are free,", ResetTest::allProcessesFree);
        Due.holds(PROMISE, "all channels and rows empty;", ResetTest::channelsAndRowsEmpty);
        Due.holds(PROMISE, "program, clock and messages stay.", ResetTest::whatStays);
    }

    /** At the clock 109: one message was sent, and the processes are in every state but free. */
    private static ProcessTurns busy() {
        ProcessTurns x = Due.with(10, 0, 11, 1, 13, 0, 8, 3, 0, 0, 11, 0);
        x.start(0, 0, 77);
        x.start(0, 5, 0);
        x.start(0, 0, 5);
        x.start(0, 1, 0);
        x.start(0, 2, 300);
        x.start(0, 3, 0);
        x.start(0, 4, 0);
        x.start(1, 4, 0);
        x.setClock(100);
        x.run(9);
        Due.states("before", x, 1, 5, 3, 3, 4, 2, 1, 1);
        Due.channels("before", x, 10, 19, 0, 0);
        Due.row("before", x, 0, 6, 0);
        Due.row("before", x, 1, 7);
        return x;
    }

    private static void allProcessesFree() {
        ProcessTurns x = busy();
        x.reset();
        Due.states("after", x, 0, 0, 0, 0, 0, 0, 0, 0);
        Due.is("running", x.running(), -1);
        for (int p = 0; p < 8; p++) {
            Due.is("look(" + p + ", 1)", x.look(p, 1), Due.NOTHING);
        }
        Due.is("nothing goes on, none wakes at 300", x.run(400), 400);
        for (int p = 0; p < 8; p++) {
            Due.is("start", x.start(1, 3, 0), p);
        }
        x.run(7);
        Due.is("the turn is counted anew", x.running(), 0);
        x = new ProcessTurns();
        x.reset();
        Due.states("where all are free", x, 0, 0, 0, 0, 0, 0, 0, 0);
    }

    private static void channelsAndRowsEmpty() {
        ProcessTurns x = busy();
        x.reset();
        Due.channels("after", x, 0, 0, 0, 0);
        Due.row("after", x, 0);
        Due.row("after", x, 1);
        x.start(0, 5, 0);
        Due.row("then", x, 0, 0);
        x.run(1);
        Due.is("no sender is left at channel 0", x.channel(0), 16);
    }

    private static void whatStays() {
        ProcessTurns x = busy();
        x.reset();
        Due.is("clock", x.clock(), 109);
        Due.is("messages", x.messages(), 1);
        Due.message("after", x, 0, 0, 0, 1, 77, 101);
        Due.is("add", x.add(0, 0), 6);
        x.start(1, 3, 4);
        Due.is("run", x.run(3), 0);
        Due.registers("instruction 3 is still the jump", x, 0, 3, 4, 0, 0);
    }
}
