/** The words that the document begins with: processes, program, clock, rows, channels, PUT and BECOME READY. */
public final class TermsTest {
    public static void main(String[] args) {
        sentences();
        Due.end();
    }

    static void sentences() {
        Due.holds("Terms", "PROCESSES 0 .. 7: each is FREE, READY, RUNNING (at most one), WAITING for a channel or for "
            + "a time, or STOPPED.", TermsTest::eightProcesses);
        Due.holds("Terms", "RUNNING (at most one)", TermsTest::atMostOneRuns);
        Due.holds("Terms", "One that is not free has a PRIORITY, 0 (high) or 1 (low), a PLACE in the program, "
            + "REGISTERS A, B, C and WORDS 0 .. 3, all ints.", TermsTest::eachHasItsOwn);
        Due.holds("Terms", "A free one has none of these.", TermsTest::freeHasNone);
        Due.holds("Terms", "THE PROGRAM has at most 40 instructions, counted from 0, with an op and an int k.",
            TermsTest::program);
        Due.holds("Terms", "THE CLOCK is an int, 0 at first.", TermsTest::clock);
        Due.holds("Terms", "For each priority there is a ROW of the processes that are ready, the first of which runs "
            + "next.", TermsTest::rows);
        Due.holds("Terms", "CHANNELS 0 .. 3: each is empty, or one process waits at it, as a sender with a message, or "
            + "as a receiver.", TermsTest::channels);
        Due.holds("Terms", "To PUT x into the registers: C becomes B, B becomes A, A becomes x.", TermsTest::put);
        Due.holds("Terms", "To BECOME READY: to be put at the end of the row of its priority.", TermsTest::becomeReady);
    }

    /** Each of the eight is brought into every state. */
    private static void eightProcesses() {
        for (int p = 0; p < 8; p++) {
            for (int state = 0; state <= 5; state++) {
                ProcessTurns x = Due.with(15, 0, 8, 1, 8, 2, 10, 0, 13, 0, 0, 0);
                for (int i = 0; i < p; i++) {
                    x.start(1, 39, 0);
                }
                Due.is("start", x.start(0, state, 1000), p);
                x.run(state == 1 ? 0 : 1);
                Due.is("state(" + p + ")", x.state(p), state);
            }
        }
    }

    private static void atMostOneRuns() {
        ProcessTurns x = Due.with(8, 0, 15, 0);
        for (int p = 0; p < 7; p++) {
            x.start(1, 0, 0);
        }
        for (int step = 0; step < 30; step++) {
            x.run(1);
            if (step == 12 || step == 20) {
                x.start(0, 1, 0);
            }
            int count = 0;
            for (int p = 0; p < 8; p++) {
                if (x.state(p) == 2) {
                    count++;
                    Due.is("the one that runs", x.running(), p);
                }
            }
            Due.is("how many run behind step " + step, count, x.running() < 0 ? 0 : 1);
        }
    }

    /** The first process fills all that it has with the least int, the last one with the greatest. */
    private static void eachHasItsOwn() {
        ProcessTurns x = Due.with(
            1, Due.MIN, 8, 3, 1, Due.MAX, 3, 0, 2, 0, 3, 1, 2, 0, 3, 2, 2, 0, 3, 3, 2, 0, 2, 0, 2, 0);
        x.start(0, 0, 0);
        for (int p = 1; p < 7; p++) {
            x.start(1, 39, p);
        }
        x.start(1, 2, 0);
        Due.is("run", x.run(13 + 6 + 11), 0);
        Due.is("priority of 0", x.look(0, 0), 0);
        Due.is("priority of 7", x.look(7, 0), 1);
        Due.registers("the least", x, 0, 13, Due.MIN, Due.MIN, Due.MIN);
        Due.registers("the greatest", x, 7, 13, Due.MAX, Due.MAX, Due.MAX);
        for (int word = 0; word < 4; word++) {
            Due.is("the least: word " + word, x.look(0, 5 + word), Due.MIN);
            Due.is("the greatest: word " + word, x.look(7, 5 + word), Due.MAX);
            Due.is("of another: word " + word, x.look(6, 5 + word), 0);
        }
        for (int p = 1; p < 7; p++) {
            Due.registers("of others", x, p, 39, p, 0, 0);
        }
    }

    private static void freeHasNone() {
        ProcessTurns x = Due.with(1, 5, 3, 2, 15, 0);
        x.start(0, 0, 9);
        for (int p = 1; p < 8; p++) {
            for (int what = 0; what < 9; what++) {
                Due.is("never started, look(" + p + ", " + what + ")", x.look(p, what), Due.NOTHING);
            }
        }
        x.run(2);
        Due.is("it has a word 2", x.look(0, 7), 5);
        x.run(1);
        for (int what = 0; what < 9; what++) {
            Due.is("ended, look(0, " + what + ")", x.look(0, what), Due.NOTHING);
        }
    }

    private static void program() {
        ProcessTurns x = new ProcessTurns();
        for (int i = 0; i < 40; i++) {
            Due.is("add", x.add(1, i == 39 ? Due.MIN : i == 0 ? Due.MAX : i), i);
        }
        Due.is("one more", x.add(1, 7), -3);
        x.start(0, 0, 0);
        x.run(1);
        Due.is("k of instruction 0", x.look(0, 2), Due.MAX);
        Due.is("all 40 are done", x.run(39), 0);
        Due.registers("k of instructions 39, 38, 37", x, 0, 40, Due.MIN, 38, 37);
    }

    private static void clock() {
        ProcessTurns x = new ProcessTurns();
        Due.is("at first", x.clock(), 0);
        x.setClock(Due.MAX);
        Due.is("the greatest", x.clock(), Due.MAX);
        x.run(1);
        Due.is("an int, so the least comes next", x.clock(), Due.MIN);
    }

    private static void rows() {
        ProcessTurns x = Due.with(0, 0, 10, 0, 13, 0, 8, 3);
        int[] places = {0, 1, 2, 3, 3, 3, 3};
        for (int place : places) {
            x.start(1, place, 1000);
        }
        x.start(0, 0, 0);
        Due.row("all low ones are ready", x, 1, 0, 1, 2, 3, 4, 5, 6);
        Due.row("the high one is ready", x, 0, 7);
        x.run(5);
        Due.states("all kinds", x, 5, 3, 4, 2, 1, 1, 1, 5);
        Due.row("only ready ones", x, 1, 4, 5, 6);
        Due.row("only ready ones", x, 0);
        for (int next = 4; next < 7; next++) {
            x.run(7);
            Due.is("waiting(1, 0)", x.waiting(1, 0), next);
            x.run(1);
            Due.is("the first one runs next", x.running(), next);
        }
    }

    /** One waits at each of the four channels, and none is in the way of another. */
    private static void channels() {
        ProcessTurns x = Due.with(
            10, 0, 0, 0, 11, 1, 0, 0, 10, 2, 0, 0, 11, 3, 0, 0, 11, 0, 0, 0, 10, 1, 0, 0, 11, 2, 0, 0, 10, 3, 0, 0);
        for (int p = 0; p < 8; p++) {
            x.start(1, 2 * p, 50 + p);
        }
        x.run(4);
        Due.channels("one at each", x, 8, 17, 10, 19);
        x.run(1);
        Due.channels("only channel 0 is emptied", x, 0, 17, 10, 19);
        Due.is("the message that waited there", x.look(4, 2), 50);
        x.run(2);
        Due.channels("only channel 1 is emptied", x, 0, 0, 10, 19);
        Due.is("the one that waited there", x.look(1, 2), 55);
        x.run(2);
        Due.channels("only channel 2 is emptied", x, 0, 0, 0, 19);
        Due.is("the message that waited there", x.look(6, 2), 52);
        x.run(2);
        Due.channels("channel 3 is emptied", x, 0, 0, 0, 0);
        Due.is("the one that waited there", x.look(3, 2), 57);
    }

    private static void put() {
        ProcessTurns x = Due.with(1, 1, 1, 2, 1, 3);
        x.start(0, 0, 9);
        Due.registers("at first", x, 0, 0, 9, 0, 0);
        x.run(1);
        Due.registers("1 is put", x, 0, 1, 1, 9, 0);
        x.run(1);
        Due.registers("2 is put", x, 0, 2, 2, 1, 9);
        x.run(1);
        Due.registers("3 is put, the 9 is gone", x, 0, 3, 3, 2, 1);
    }

    /** By start, by START, by a jump, by a time and by a channel. */
    private static void becomeReady() {
        ProcessTurns x = Due.with(8, 0, 14, 1, 15, 0, 13, 0, 11, 0, 10, 0);
        x.start(1, 0, 0);
        x.start(1, 0, 0);
        x.start(0, 0, 0);
        Due.row("by start", x, 1, 0, 1);
        Due.row("by start", x, 0, 2);
        x.reset();
        x.start(1, 0, 0);
        x.start(1, 0, 0);
        x.run(8);
        Due.row("by a jump", x, 1, 1, 0);
        x.start(0, 1, 0);
        x.run(1);
        Due.row("by START", x, 1, 1, 0, 3);
        x.reset();
        x.setClock(0);
        x.start(1, 3, 2);
        x.run(1);
        x.start(1, 0, 0);
        x.start(1, 0, 0);
        x.run(2);
        Due.row("by a time", x, 1, 2, 0);
        x.reset();
        x.start(0, 4, 0);
        x.start(1, 4, 0);
        x.run(1);
        x.start(0, 5, 0);
        x.start(0, 0, 0);
        x.run(1);
        Due.row("by a channel, low untouched", x, 1, 1);
        Due.row("by a channel", x, 0, 3, 0);
    }
}
