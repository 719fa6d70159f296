/** Promise 1. */
public final class NewObjectTest {
    public static void main(String[] args) {
        ProcessTurns x = new ProcessTurns();
        Due.is("clock", x.clock(), 0);
        Due.is("running", x.running(), -1);
        Due.is("messages", x.messages(), 0);
        Due.is("message", x.message(0, 0), Due.NOTHING);
        for (int p = 0; p < 8; p++) {
            Due.is("state " + p, x.state(p), 0);
            Due.is("look " + p, x.look(p, 0), Due.NOTHING);
        }
        for (int k = 0; k < 4; k++) {
            Due.is("channel " + k, x.channel(k), 0);
        }
        Due.row("new", x, 0);
        Due.row("new", x, 1);
        Due.is("the program is empty", x.add(1, 1), 0);
        objectsShareNothing();
        Due.end();
    }

    private static void objectsShareNothing() {
        ProcessTurns x = Due.with(1, 5, 10, 0);
        x.start(0, 0, 0);
        x.run(2);
        ProcessTurns y = new ProcessTurns();
        Due.is("other's state", y.state(0), 0);
        Due.is("other's channel", y.channel(0), 0);
        Due.is("other's clock", y.clock(), 0);
        Due.is("other's program", y.add(0, 0), 0);
        Due.is("own channel", x.channel(0), 8);
    }
}
