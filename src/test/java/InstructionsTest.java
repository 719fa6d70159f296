/** What each instruction does, and where a process goes on. */
public final class InstructionsTest {
    public static void main(String[] args) {
        sentences();
        Due.end();
    }

    static void sentences() {
        Due.holds("Terms", "0 STOP: the process is stopped, its place stays.", InstructionsTest::stop);
        Due.holds("Terms", "1 k is put.", InstructionsTest::putK);
        Due.holds("Terms", "2 word k is put.", InstructionsTest::putWord);
        Due.holds("Terms", "3 word k becomes A, then A becomes B, B becomes C.", InstructionsTest::store);
        Due.holds("Terms", "4, 5, 6 A becomes B plus, minus, times A (wrapping), then B becomes C.",
            InstructionsTest::arithmetic);
        Due.holds("Terms", "plus, minus, times A (wrapping)", InstructionsTest::arithmeticWraps);
        Due.holds("Terms", "7 A becomes 1 if B is greater than A, else 0, then B becomes C.",
            InstructionsTest::greater);
        jumps();
        Due.holds("Terms", "9 if A is 0 on at instruction k and A stays;", InstructionsTest::jumpIfZero);
        Due.holds("Terms", "else A becomes B, B becomes C.", InstructionsTest::noJumpIfNotZero);
        Due.holds("Terms", "10 SEND: A over channel k; then A becomes B, B becomes C.", InstructionsTest::send);
        Due.holds("Terms", "11 RECEIVE: a message over channel k, which is put.", InstructionsTest::receive);
        Due.holds("Terms", "12 the clock is put.", InstructionsTest::clock);
        Due.holds("Terms", "13 AWAIT: the time A; then A becomes B, B becomes C.", InstructionsTest::await);
        starts();
        Due.holds("Terms", "15 END: the process is free.", InstructionsTest::end);
        Due.holds("Terms", "Where no other place is said it goes on at the next instruction.", InstructionsTest::next);
        Due.holds("Terms", "A process whose place is behind the last instruction does a STOP there.",
            InstructionsTest::behindTheLast);
    }

    private static void jumps() {
        Due.holds("Terms", "8 on at instruction k;", InstructionsTest::jump);
        Due.holds("Terms", "behind that, if the process is of low priority", InstructionsTest::highJumpsOn);
        Due.holds("Terms", "and has done 8 instructions or more (this one too)", InstructionsTest::eightOrMore);
        Due.holds("Terms", "since it began to run last,", InstructionsTest::sinceItBegan);
        Due.holds("Terms", "it becomes ready.", InstructionsTest::readyBehindAJump);
    }

    private static void starts() {
        Due.holds("Terms", "14 START: a new process, of low priority for k odd, of high for k even,",
            InstructionsTest::startPriority);
        Due.holds("Terms", "at instruction k / 2,", InstructionsTest::startPlace);
        Due.holds("Terms", "all its registers and words 0, but A is the A of this one;",
            InstructionsTest::startRegisters);
        Due.holds("Terms", "its number is put;", InstructionsTest::startPutsTheNumber);
        Due.holds("Terms", "-1 is put if none is free, and nothing is started.",
            InstructionsTest::startWhereNoneIsFree);
        Due.holds("Terms", "The least free process is taken;", InstructionsTest::startTakesTheLeast);
        Due.holds("Terms", "The least free process is taken; it becomes ready.", InstructionsTest::startedIsReady);
    }

    /** A process with A = a, B = 20, C = 30 that has done one op. */
    private static ProcessTurns after(int op, int k, int a) {
        return after(op, k, a, 20);
    }

    /** A process with A = a, B = b, C = 30 that has done one op, at the clock 2. */
    private static ProcessTurns after(int op, int k, int a, int b) {
        ProcessTurns x = Due.with(1, b, 1, a, op, k);
        x.start(0, 0, 30);
        x.run(3);
        return x;
    }

    private static void stop() {
        ProcessTurns x = after(0, 9, 10);
        Due.is("state", x.state(0), 5);
        Due.is("running", x.running(), -1);
        Due.registers("STOP", x, 0, 2, 10, 20, 30);
        Due.is("it stays so", x.run(400), 400);
        Due.is("state", x.state(0), 5);
        Due.registers("it stays so", x, 0, 2, 10, 20, 30);
    }

    private static void putK() {
        for (int k : new int[] {Due.MIN, -1, 0, 1, 5, Due.MAX}) {
            Due.registers("put " + k, after(1, k, 10), 0, 3, k, 10, 20);
        }
    }

    private static void putWord() {
        int[] words = {Due.MIN, -1, 7, Due.MAX};
        for (int k = 0; k < 4; k++) {
            ProcessTurns x = Due.with(
                1, words[0], 3, 0, 1, words[1], 3, 1, 1, words[2], 3, 2, 1, words[3], 3, 3, 1, 10, 2, k);
            x.start(0, 0, 20);
            x.run(10);
            Due.registers("word " + k, x, 0, 10, words[k], 10, 20);
            Due.is("the word stays", x.look(0, 5 + k), words[k]);
        }
        Due.registers("a word that was never set", after(2, 3, 10), 0, 3, 0, 10, 20);
    }

    private static void store() {
        for (int k = 0; k < 4; k++) {
            ProcessTurns x = after(3, k, Due.MIN);
            Due.registers("word " + k, x, 0, 3, 20, 30, 30);
            for (int word = 0; word < 4; word++) {
                Due.is("word " + word, x.look(0, 5 + word), word == k ? Due.MIN : 0);
            }
        }
    }

    private static void arithmetic() {
        Due.registers("20 plus 11", after(4, 0, 11), 0, 3, 31, 30, 30);
        Due.registers("20 minus 11", after(5, 0, 11), 0, 3, 9, 30, 30);
        Due.registers("20 times 11", after(6, 0, 11), 0, 3, 220, 30, 30);
        Due.registers("20 plus -21", after(4, 0, -21), 0, 3, -1, 30, 30);
        Due.registers("20 minus 21", after(5, 0, 21), 0, 3, -1, 30, 30);
        Due.registers("20 times -1", after(6, 0, -1), 0, 3, -20, 30, 30);
        Due.registers("20 times 0", after(6, 0, 0), 0, 3, 0, 30, 30);
    }

    private static void arithmeticWraps() {
        Due.registers("greatest plus 1", after(4, 0, 1, Due.MAX), 0, 3, Due.MIN, 30, 30);
        Due.registers("least plus -1", after(4, 0, -1, Due.MIN), 0, 3, Due.MAX, 30, 30);
        Due.registers("least plus least", after(4, 0, Due.MIN, Due.MIN), 0, 3, 0, 30, 30);
        Due.registers("least minus 1", after(5, 0, 1, Due.MIN), 0, 3, Due.MAX, 30, 30);
        Due.registers("greatest minus -1", after(5, 0, -1, Due.MAX), 0, 3, Due.MIN, 30, 30);
        Due.registers("0 minus least", after(5, 0, Due.MIN, 0), 0, 3, Due.MIN, 30, 30);
        Due.registers("greatest times 2", after(6, 0, 2, Due.MAX), 0, 3, -2, 30, 30);
        Due.registers("greatest times greatest", after(6, 0, Due.MAX, Due.MAX), 0, 3, 1, 30, 30);
        Due.registers("least times -1", after(6, 0, -1, Due.MIN), 0, 3, Due.MIN, 30, 30);
        Due.registers("65536 times 65536", after(6, 0, 65536, 65536), 0, 3, 0, 30, 30);
    }

    private static void greater() {
        Due.registers("20 and 19", after(7, 0, 19), 0, 3, 1, 30, 30);
        Due.registers("20 and 20", after(7, 0, 20), 0, 3, 0, 30, 30);
        Due.registers("20 and 21", after(7, 0, 21), 0, 3, 0, 30, 30);
        Due.registers("greatest and least", after(7, 0, Due.MIN, Due.MAX), 0, 3, 1, 30, 30);
        Due.registers("least and greatest", after(7, 0, Due.MAX, Due.MIN), 0, 3, 0, 30, 30);
        Due.registers("0 and least", after(7, 0, Due.MIN, 0), 0, 3, 1, 30, 30);
        Due.registers("-1 and 0", after(7, 0, 0, -1), 0, 3, 0, 30, 30);
    }

    private static void jump() {
        for (int k : new int[] {0, 1, 2, 3, 38, 39}) {
            ProcessTurns x = after(8, k, 10);
            Due.registers("on at " + k, x, 0, k, 10, 20, 30);
            Due.is("it runs", x.running(), 0);
        }
    }

    private static void highJumpsOn() {
        ProcessTurns x = Due.with(8, 0);
        x.start(0, 0, 0);
        x.start(0, 0, 0);
        x.start(1, 0, 0);
        for (int steps : new int[] {7, 1, 1, 391}) {
            x.run(steps);
            Due.is("high runs on", x.running(), 0);
            Due.row("high", x, 0, 1);
            Due.row("low", x, 1, 2);
        }
        x.reset();
        x.start(1, 0, 0);
        x.run(8);
        Due.is("low does not", x.running(), -1);
    }

    /** Instruction 39 is the jump, those before it put something. */
    private static void eightOrMore() {
        ProcessTurns x = new ProcessTurns();
        for (int i = 0; i < 39; i++) {
            x.add(1, i);
        }
        x.add(8, 0);
        for (int done : new int[] {1, 2, 6, 7, 8, 9, 10, 16, 17, 40}) {
            x.reset();
            x.start(1, 40 - done, 0);
            x.run(done - 1);
            Due.is("before the jump, " + done + " with it: state", x.state(0), done == 1 ? 1 : 2);
            x.run(1);
            Due.is(done + " done: state", x.state(0), done < 8 ? 2 : 1);
            Due.is(done + " done: place", x.look(0, 1), 0);
        }
        x = Due.with(1, 1, 1, 1, 1, 1, 1, 1, 1, 1, 1, 1, 1, 1, 1, 0, 9, 8, 8, 0);
        x.start(1, 0, 0);
        x.start(1, 0, 0);
        x.run(19);
        Due.is("no other instruction ends a turn", x.running(), 0);
    }

    /** What it did before it waited, gave way or was started anew is not counted. */
    private static void sinceItBegan() {
        ProcessTurns x = Due.with(8, 0, 15, 0);
        x.start(1, 0, 0);
        x.run(7);
        x.start(0, 1, 0);
        x.run(8);
        Due.is("seven since it gave way", x.running(), 0);
        x.run(1);
        Due.is("eight since it gave way", x.running(), -1);
        x = Due.with(1, 1, 1, 1, 1, 1, 1, 1, 1, 1, 1, 10, 13, 0, 8, 7);
        x.start(1, 0, 0);
        x.run(7);
        Due.is("it waits for a time", x.state(0), 4);
        Due.is("idle from 7 to 9", x.run(10), 3);
        Due.is("seven since its time", x.running(), 0);
        x.run(1);
        Due.is("eight since its time", x.running(), -1);
        x = Due.with(8, 0);
        x.start(1, 0, 0);
        x.run(7);
        x.reset();
        x.start(1, 0, 0);
        x.run(7);
        Due.is("seven since it was started anew", x.running(), 0);
        x = Due.with(1, 1, 1, 1, 1, 1, 1, 1, 1, 0, 13, 0, 8, 6);
        x.start(1, 0, 0);
        x.run(7);
        Due.is("seven, one an AWAIT that had not to wait", x.running(), 0);
        x.run(1);
        Due.is("eight, one an AWAIT that had not to wait", x.running(), -1);
    }

    private static void readyBehindAJump() {
        ProcessTurns x = Due.with(8, 2, 8, 0, 8, 1);
        x.start(1, 0, 0);
        x.start(1, 0, 0);
        x.start(1, 0, 0);
        x.run(8);
        Due.is("state", x.state(0), 1);
        Due.is("running", x.running(), -1);
        Due.row("at the end", x, 1, 1, 2, 0);
        Due.is("its place is where it jumped", x.look(0, 1), 1);
        x.reset();
        x.start(1, 0, 0);
        x.run(8);
        Due.row("alone", x, 1, 0);
        Due.is("alone it runs on", x.run(8), 0);
    }

    private static void jumpIfZero() {
        for (int k : new int[] {0, 1, 2, 3, 38, 39}) {
            Due.registers("on at " + k, after(9, k, 0), 0, k, 0, 20, 30);
        }
    }

    private static void noJumpIfNotZero() {
        for (int a : new int[] {Due.MIN, -1, 1, Due.MAX}) {
            Due.registers("A was " + a, after(9, 39, a), 0, 3, 20, 30, 30);
        }
    }

    /** The sender starts at 0 and has A = 10, B = 20, C = 30 at its SEND; the receiver starts at 4. */
    private static void send() {
        for (int k = 0; k < 4; k++) {
            ProcessTurns x = Due.with(1, 20, 1, 10, 10, k, 0, 0, 11, k, 0, 0);
            x.start(0, 4, 0);
            x.start(0, 0, 30);
            x.run(4);
            Due.registers("where one receives", x, 1, 3, 20, 30, 30);
            Due.message("over channel " + k, x, 0, k, 1, 0, 10);
            x = Due.with(1, 20, 1, 10, 10, k, 0, 0, 11, k, 0, 0);
            x.start(0, 0, 30);
            x.run(3);
            Due.registers("while it waits", x, 0, 3, 20, 30, 30);
            x.start(0, 4, 0);
            x.run(1);
            Due.registers("where one received", x, 0, 3, 20, 30, 30);
            Due.message("over channel " + k, x, 0, k, 0, 1, 10);
        }
    }

    /** The receiver starts at 0 and has A = 10, B = 20, C = 30 at its RECEIVE; the sender starts at 4. */
    private static void receive() {
        for (int k = 0; k < 4; k++) {
            ProcessTurns x = Due.with(1, 20, 1, 10, 11, k, 0, 0, 10, k, 0, 0);
            x.start(0, 4, Due.MAX);
            x.start(0, 0, 30);
            x.run(4);
            Due.registers("where one sends", x, 1, 3, Due.MAX, 10, 20);
            x.reset();
            x.start(0, 0, 30);
            x.run(3);
            Due.registers("while it waits", x, 0, 3, 10, 20, 30);
            x.start(0, 4, Due.MIN);
            x.run(1);
            Due.registers("where one sent", x, 0, 3, Due.MIN, 10, 20);
        }
    }

    private static void clock() {
        Due.registers("the clock", after(12, 77, 10), 0, 3, 2, 10, 20);
        for (int t : new int[] {Due.MIN, -1, 0, Due.MAX}) {
            ProcessTurns x = Due.with(12, 5);
            x.setClock(t);
            x.start(1, 0, 9);
            x.run(1);
            Due.registers("at " + t, x, 0, 1, t, 9, 0);
        }
    }

    private static void await() {
        Due.registers("a time that has come", after(13, 77, 2), 0, 3, 20, 30, 30);
        ProcessTurns x = after(13, 0, 3);
        Due.is("one that has not", x.state(0), 4);
        Due.registers("one that has not", x, 0, 3, 20, 30, 30);
        x = after(13, 50, 10);
        Due.is("it is A, not k", x.run(8), 7);
    }

    private static void startPriority() {
        for (int k : new int[] {0, 1, 2, 3, 40, 41, 78, 79}) {
            ProcessTurns x = after(14, k, 10);
            Due.is("k " + k, x.look(1, 0), k % 2);
            Due.row("k " + k, x, k % 2, 1);
            Due.row("k " + k, x, 1 - k % 2);
        }
        ProcessTurns x = Due.with(14, 2, 14, 3);
        x.start(1, 0, 0);
        x.run(1);
        Due.is("a low one starts a high one", x.look(1, 0), 0);
        Due.is("and runs till the next step", x.running(), 0);
    }

    private static void startPlace() {
        for (int k = 0; k < 80; k++) {
            Due.is("k " + k, after(14, k, 10).look(1, 1), k / 2);
        }
    }

    /** The new process takes the number of one that ended with all in use. */
    private static void startRegisters() {
        ProcessTurns x = Due.with(1, 4, 3, 0, 2, 0, 3, 1, 2, 0, 3, 2, 2, 0, 3, 3, 1, 5, 1, 6, 1, 7, 15, 0, 14, 0);
        x.start(0, 0, 0);
        x.start(1, 12, Due.MIN);
        x.run(11);
        Due.registers("in use", x, 0, 11, 7, 6, 5);
        x.run(2);
        Due.registers("anew", x, 0, 0, Due.MIN, 0, 0);
        for (int word = 5; word <= 8; word++) {
            Due.is("look(0, " + word + ")", x.look(0, word), 0);
        }
    }

    private static void startPutsTheNumber() {
        ProcessTurns x = Due.with(14, 79, 14, 79, 14, 79, 14, 79, 14, 79, 14, 79, 14, 79);
        x.start(0, 0, 9);
        x.run(1);
        Due.registers("the first", x, 0, 1, 1, 9, 0);
        x.run(6);
        Due.registers("the last", x, 0, 7, 7, 6, 5);
        Due.states("all are started", x, 2, 1, 1, 1, 1, 1, 1, 1);
    }

    private static void startWhereNoneIsFree() {
        ProcessTurns x = Due.with(14, 3, 14, 2, 0, 0);
        x.start(0, 0, 5);
        for (int p = 1; p < 8; p++) {
            x.start(1, 2, 60 + p);
        }
        x.run(1);
        Due.registers("low", x, 0, 1, -1, 5, 0);
        x.run(1);
        Due.registers("high", x, 0, 2, -1, -1, 5);
        Due.is("it goes on", x.running(), 0);
        Due.row("no other is ready", x, 1, 1, 2, 3, 4, 5, 6, 7);
        Due.row("no other is ready", x, 0);
        for (int p = 1; p < 8; p++) {
            Due.registers("untouched", x, p, 2, 60 + p, 0, 0);
        }
    }

    private static void startTakesTheLeast() {
        ProcessTurns x = Due.with(15, 0, 14, 79, 14, 79, 14, 79, 14, 79);
        for (int p = 0; p < 8; p++) {
            x.start(p == 7 ? 1 : 0, p == 7 ? 1 : p == 2 || p == 5 ? 0 : 39, 0);
        }
        x.run(7);
        Due.states("two ended", x, 5, 5, 0, 5, 5, 0, 5, 1);
        x.run(3);
        Due.registers("the least, the other, none", x, 7, 4, -1, 5, 2);
        Due.states("both are started", x, 5, 5, 1, 5, 5, 1, 5, 2);
    }

    private static void startedIsReady() {
        ProcessTurns x = Due.with(14, 79, 14, 78, 14, 79, 14, 78, 0, 0);
        x.start(0, 0, 0);
        x.start(0, 4, 0);
        x.start(1, 4, 0);
        x.run(4);
        Due.states("started", x, 2, 1, 1, 1, 1, 1, 1, 0);
        Due.row("at the end of its row", x, 0, 1, 4, 6);
        Due.row("at the end of its row", x, 1, 2, 3, 5);
    }

    private static void end() {
        ProcessTurns x = after(15, 0, 10);
        Due.is("state", x.state(0), 0);
        Due.is("running", x.running(), -1);
        Due.is("look(0, 2)", x.look(0, 2), Due.NOTHING);
        Due.row("it is in no row", x, 0);
        Due.is("idle then", x.run(1), 1);
        Due.is("its number is free", x.start(1, 0, 0), 0);
        x = new ProcessTurns();
        x.add(15, 0);
        for (int p = 0; p < 8; p++) {
            x.start(1, 0, 0);
        }
        Due.is("all eight end", x.run(9), 1);
        Due.states("all eight end", x, 0, 0, 0, 0, 0, 0, 0, 0);
    }

    /** From instruction 2, and from the last place of a full program. */
    private static void next() {
        for (int op : new int[] {1, 2, 3, 4, 5, 6, 7, 9, 10, 11, 12, 13, 14}) {
            Due.is("op " + op + ": place", after(op, 0, 2).look(0, 1), 3);
            ProcessTurns x = new ProcessTurns();
            for (int i = 0; i < 39; i++) {
                x.add(0, 0);
            }
            x.add(op, 0);
            x.start(0, 39, 2);
            x.run(1);
            Due.is("op " + op + " at 39: place", x.look(0, 1), 40);
        }
    }

    private static void behindTheLast() {
        for (int place : new int[] {0, 1, 39}) {
            ProcessTurns x = new ProcessTurns();
            x.start(1, place, 6);
            Due.is("no instruction at all", x.run(1), 0);
            Due.is("state", x.state(0), 5);
            Due.registers("its place stays", x, 0, place, 6, 0, 0);
        }
        ProcessTurns x = Due.with(1, 1, 8, 39, 9, 3);
        x.start(0, 0, 0);
        x.start(0, 2, 0);
        x.run(2);
        Due.is("it is there", x.look(0, 1), 39);
        Due.is("it runs", x.state(0), 2);
        x.run(3);
        Due.states("by a jump far behind, by a jump just behind", x, 5, 5);
        Due.is("just behind", x.look(1, 1), 3);
        x = new ProcessTurns();
        x.start(0, 0, 0);
        x.start(0, 0, 0);
        x.run(1);
        x.add(1, 8);
        x.run(1);
        Due.is("stopped before there was an instruction", x.state(0), 5);
        Due.is("no more behind the last", x.look(1, 2), 8);
        x = new ProcessTurns();
        for (int i = 0; i < 40; i++) {
            x.add(1, i);
        }
        x.start(1, 39, 0);
        x.run(1);
        Due.is("instruction 39 is the last, not behind it", x.state(0), 2);
        Due.is("a STOP behind a full program", x.run(1), 0);
        Due.is("state", x.state(0), 5);
        Due.registers("its place stays", x, 0, 40, 39, 0, 0);
    }
}
