/** Promise 1. */
public final class NewObjectTest {
    public static void main(String[] args) {
        sentences();
        Due.end();
    }

    static void sentences() {
        Due.holds("Promise 1", "All processes free,", NewObjectTest::allProcessesFree);
        Due.holds("Promise 1", "the program empty,", NewObjectTest::programEmpty);
        Due.holds("Promise 1", "all channels empty,", NewObjectTest::allChannelsEmpty);
        Due.holds("Promise 1", "the clock 0,", NewObjectTest::clockZero);
        Due.holds("Promise 1", "no messages.", NewObjectTest::noMessages);
    }

    /** A new object, and a new one beside another in which all is in use. */
    private static ProcessTurns[] newOnes() {
        ProcessTurns first = new ProcessTurns();
        ProcessTurns used = Due.with(10, 0, 11, 0, 10, 1, 8, 3);
        used.setClock(77);
        for (int p = 0; p < 8; p++) {
            used.start(p & 1, p % 4, 5);
        }
        used.run(6);
        Due.is("the used one has a message", used.messages(), 1);
        Due.is("the used one has one that waits", used.channel(1), 10);
        ProcessTurns beside = new ProcessTurns();
        Due.is("the used one is still in use", used.channel(1), 10);
        return new ProcessTurns[] {first, beside};
    }

    private static void allProcessesFree() {
        for (ProcessTurns x : newOnes()) {
            Due.states("new", x, 0, 0, 0, 0, 0, 0, 0, 0);
            Due.is("running", x.running(), -1);
            Due.row("new", x, 0);
            Due.row("new", x, 1);
            for (int p = 0; p < 8; p++) {
                Due.is("look(" + p + ", 0)", x.look(p, 0), Due.NOTHING);
            }
            for (int p = 0; p < 8; p++) {
                Due.is("start", x.start(1, 0, 0), p);
            }
        }
    }

    private static void programEmpty() {
        for (ProcessTurns x : newOnes()) {
            x.start(0, 0, 0);
            x.run(1);
            Due.is("behind the last is instruction 0", x.state(0), 5);
            Due.is("add", x.add(1, 1), 0);
        }
    }

    private static void allChannelsEmpty() {
        for (ProcessTurns x : newOnes()) {
            Due.channels("new", x, 0, 0, 0, 0);
        }
    }

    private static void clockZero() {
        for (ProcessTurns x : newOnes()) {
            Due.is("clock", x.clock(), 0);
        }
    }

    private static void noMessages() {
        for (ProcessTurns x : newOnes()) {
            Due.is("messages", x.messages(), 0);
            for (int n = 0; n < 16; n++) {
                Due.message("new", x, n, Due.NOTHING, Due.NOTHING, Due.NOTHING, Due.NOTHING, Due.NOTHING);
            }
        }
    }
}
