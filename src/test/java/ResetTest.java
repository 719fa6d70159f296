/** Promise 6. */
public final class ResetTest {
    public static void main(String[] args) {
        ProcessTurns x = Due.with(10, 0, 11, 1, 13, 0, 8, 3, 0, 0, 11, 0);
        x.start(0, 0, 77);
        x.start(0, 5, 0);
        x.start(0, 0, 5);
        x.start(0, 1, 0);
        x.start(0, 2, 1000);
        x.start(0, 3, 0);
        x.start(0, 4, 0);
        x.start(1, 4, 0);
        x.setClock(100);
        x.run(9);
        Due.is("one waits at a channel", x.state(3), 3);
        Due.is("one waits for a time", x.state(4), 4);
        Due.is("one runs", x.running(), 5);
        Due.row("before", x, 0, 6, 0);
        Due.row("before", x, 1, 7);
        x.reset();
        for (int p = 0; p < 8; p++) {
            Due.is("state " + p, x.state(p), 0);
            Due.is("look " + p, x.look(p, 1), Due.NOTHING);
        }
        for (int k = 0; k < 4; k++) {
            Due.is("channel " + k, x.channel(k), 0);
        }
        Due.is("running", x.running(), -1);
        Due.row("after", x, 0);
        Due.row("after", x, 1);
        Due.is("clock stays", x.clock(), 109);
        Due.is("messages stay", x.messages(), 1);
        Due.message("after", x, 0, 0, 0, 1, 77, 101);
        Due.is("nothing goes on, nothing wakes", x.run(400), 400);
        Due.is("program stays", x.add(0, 0), 6);
        Due.is("the least free again", x.start(1, 3, 4), 0);
        Due.is("the program runs", x.run(3), 0);
        Due.registers("the program runs", x, 0, 3, 4, 0, 0);
        Due.is("the turn counts anew", x.running(), 0);
        Due.end();
    }
}
