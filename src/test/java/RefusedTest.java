/** A refused call changes nothing, whichever it is and whatever it is refused for. */
public final class RefusedTest {
    private static final String WORDS = "A refused call changes nothing.";

    public static void main(String[] args) {
        sentences();
        Due.end();
    }

    static void sentences() {
        Due.holds("Terms", WORDS, RefusedTest::add);
        Due.holds("Terms", WORDS, RefusedTest::addToAFullProgram);
        Due.holds("Terms", WORDS, RefusedTest::start);
        Due.holds("Terms", WORDS, RefusedTest::startWhereNoneIsFree);
        Due.holds("Terms", WORDS, RefusedTest::run);
    }

    /** There was a message; now one waits at a channel and one for a time, one is stopped, one runs, two are ready. */
    private static ProcessTurns busy() {
        ProcessTurns x = Due.with(10, 0, 11, 0, 10, 1, 13, 0, 8, 4);
        x.setClock(5);
        for (int place = 0; place < 6; place++) {
            x.start(1, place == 5 ? 4 : place, 1000 + place);
        }
        x.run(6);
        Due.states("busy", x, 1, 3, 5, 4, 2, 1, 0, 0);
        return x;
    }

    /** All that can be asked of an object, without the program. */
    private static String answers(ProcessTurns x) {
        StringBuilder all = new StringBuilder();
        all.append("clock ").append(x.clock()).append(", running ").append(x.running());
        for (int p = 0; p < 8; p++) {
            all.append(", process ").append(p).append(" in ").append(x.state(p));
            for (int what = 0; what < 9; what++) {
                all.append(' ').append(x.look(p, what));
            }
            all.append(", in the rows ").append(x.waiting(0, p)).append(' ').append(x.waiting(1, p));
        }
        for (int k = 0; k < 4; k++) {
            all.append(", channel ").append(x.channel(k));
        }
        all.append(", messages ").append(x.messages());
        for (int what = 0; what < 5; what++) {
            all.append(' ').append(x.message(0, what)).append(' ').append(x.message(1, what));
        }
        return all.toString();
    }

    /** The one that was refused a call now answers as one that was not, and goes on as it does. */
    private static void sameAs(ProcessTurns untouched, ProcessTurns x) {
        Due.same("all behind a refused call", answers(x), answers(untouched));
        x.start(0, 5, 7);
        untouched.start(0, 5, 7);
        Due.is("run(30) behind a refused call", x.run(30), untouched.run(30));
        Due.same("all behind the steps that follow", answers(x), answers(untouched));
        Due.is("add behind a refused call", x.add(1, 1), untouched.add(1, 1));
    }

    private static void add() {
        ProcessTurns x = busy();
        Due.is("add(-1, 0)", x.add(-1, 0), -1);
        Due.is("add(16, 0)", x.add(16, 0), -1);
        Due.is("add(3, 4)", x.add(3, 4), -2);
        Due.is("add(11, -1)", x.add(11, -1), -2);
        Due.is("add(8, 40)", x.add(8, 40), -2);
        Due.is("add(9, -1)", x.add(9, -1), -2);
        Due.is("add(14, 80)", x.add(14, 80), -2);
        sameAs(busy(), x);
        Due.is("the next place", x.add(0, 0), 6);
    }

    private static ProcessTurns full() {
        ProcessTurns x = new ProcessTurns();
        for (int i = 0; i < 40; i++) {
            x.add(1, i);
        }
        x.start(0, 0, 0);
        x.start(1, 38, 0);
        return x;
    }

    private static void addToAFullProgram() {
        ProcessTurns x = full();
        for (int i = 0; i < 3; i++) {
            Due.is("add(15, 0)", x.add(15, 0), -3);
        }
        sameAs(full(), x);
        x = full();
        x.add(15, 0);
        Due.is("busy till behind instruction 39", x.run(44), 0);
        Due.registers("a STOP there, not the refused END", x, 0, 40, 39, 38, 37);
        Due.registers("a STOP there, not the refused END", x, 1, 40, 39, 38, 0);
    }

    private static void start() {
        ProcessTurns x = busy();
        Due.is("start(-1, 0, 3)", x.start(-1, 0, 3), -1);
        Due.is("start(2, 0, 3)", x.start(2, 0, 3), -1);
        Due.is("start(0, -1, 3)", x.start(0, -1, 3), -1);
        Due.is("start(1, 40, 3)", x.start(1, 40, 3), -1);
        sameAs(busy(), x);
    }

    private static ProcessTurns noneFree() {
        ProcessTurns x = busy();
        x.start(1, 2, 8);
        x.start(0, 4, 9);
        return x;
    }

    private static void startWhereNoneIsFree() {
        ProcessTurns x = noneFree();
        Due.is("start(0, 0, 3)", x.start(0, 0, 3), -2);
        Due.is("start(1, 39, 3)", x.start(1, 39, 3), -2);
        sameAs(noneFree(), x);
    }

    private static void run() {
        ProcessTurns x = busy();
        Due.is("run(-1)", x.run(-1), -1);
        Due.is("run(401)", x.run(401), -1);
        Due.is("run(least)", x.run(Due.MIN), -1);
        Due.is("run(greatest)", x.run(Due.MAX), -1);
        sameAs(busy(), x);
    }
}
