/** What the class is, and for how many calls an object is used. */
public final class WhatItIsTest {
    public static void main(String[] args) {
        sentences();
        Due.end();
    }

    static void sentences() {
        Due.holds("What it is", "A processor that runs several processes by turns, with two priorities, channels and "
            + "a clock.", WhatItIsTest::all);
        Due.holds("What it is", "An object is used for at most 512 calls after it has been made;",
            WhatItIsTest::goodForAllItsCalls);
        Due.holds("What it is", "what later calls answer is free.", WhatItIsTest::laterCallsEnd);
    }

    /** Two low ones count in their word 0 by turns of ten instructions, till a high one's time has come to send. */
    private static void all() {
        ProcessTurns x = Due.with(2, 0, 1, 1, 4, 0, 3, 0, 8, 0, 13, 0, 12, 0, 10, 3, 15, 0, 11, 3, 0, 0);
        Due.is("start", x.start(1, 0, 0), 0);
        Due.is("start", x.start(1, 0, 0), 1);
        Due.is("start", x.start(0, 5, 36), 2);
        Due.is("start", x.start(0, 9, 0), 3);
        Due.is("run(36)", x.run(36), 0);
        Due.states("the low ones have run, by turns", x, 1, 2, 4, 3);
        Due.is("look(0, 5)", x.look(0, 5), 4);
        Due.is("look(1, 5)", x.look(1, 5), 3);
        Due.is("run(4)", x.run(4), 0);
        Due.states("the high ones have run", x, 1, 1, 0, 5);
        Due.row("the low one that ran is the first", x, 1, 1, 0);
        Due.message("the message", x, 0, 3, 2, 3, 36, 37);
        Due.is("clock", x.clock(), 40);
    }

    /** Two that send and receive without end; there is a message at the clock 1, 5, 9 and on. */
    private static ProcessTurns afterCalls(int calls) {
        ProcessTurns x = Due.with(11, 0, 8, 0, 10, 0, 8, 2);
        x.start(0, 0, 0);
        x.start(0, 2, 9);
        for (int i = 6; i < calls; i++) {
            Due.is("run(400) as call " + (i + 1), x.run(400), 0);
        }
        return x;
    }

    private static void goodForAllItsCalls() {
        int steps = (511 - 6) * 400;
        Due.is("clock() as call 512", afterCalls(511).clock(), steps);
        Due.is("messages() as call 512", afterCalls(511).messages(), steps / 4);
        Due.is("message(0, 4) as call 512", afterCalls(511).message(0, 4), steps - 3);
        Due.is("message(15, 4) as call 512", afterCalls(511).message(15, 4), steps - 3 - 15 * 4);
        Due.is("message(16, 4) as call 512", afterCalls(511).message(16, 4), Due.NOTHING);
        Due.is("run(400) as call 512", afterCalls(511).run(400), 0);
        Due.is("start as call 512", afterCalls(511).start(1, 0, 0), 2);
        Due.is("add as call 512", afterCalls(511).add(0, 0), 4);
    }

    /** No answer is looked at, but LANGUAGE.md wants every call to end without an exception. */
    private static void laterCallsEnd() {
        ProcessTurns x = afterCalls(512);
        for (int i = -1; i < 100; i++) {
            x.add(i, i);
            x.start(i & 1, i, i);
            x.run(i);
            x.state(i);
            x.look(i, i);
            x.waiting(i & 1, i);
            x.channel(i);
            x.message(i, i);
            x.setClock(i);
        }
        x.clock();
        x.running();
        x.messages();
        x.reset();
    }
}
