/** Promise 2. */
public final class AddTest {
    private static final String PROMISE = "Promise 2";

    public static void main(String[] args) {
        sentences();
        Due.end();
    }

    static void sentences() {
        Due.holds(PROMISE, "Appends an instruction: its place.", AddTest::appendsAnInstruction);
        Due.holds(PROMISE, "Refused, first that holds:", AddTest::firstThatHolds);
        Due.holds(PROMISE, "-1 op is not 0 .. 15;", AddTest::opIsNone);
        Due.holds(PROMISE, "-2 k is not 0 .. 3 (ops 2, 3, 10, 11),", AddTest::wordsAndChannels);
        Due.holds(PROMISE, "0 .. 39 (8, 9)", AddTest::places);
        Due.holds(PROMISE, "or 0 .. 79 (14);", AddTest::starts);
        Due.holds(PROMISE, "for others any;", AddTest::others);
        Due.holds(PROMISE, "-3 there are 40.", AddTest::thereAreForty);
    }

    private static void appendsAnInstruction() {
        ProcessTurns x = new ProcessTurns();
        for (int i = 0; i < 40; i++) {
            Due.is("add at " + i, x.add(1, 100 + i), i);
        }
        for (int place : new int[] {0, 1, 20, 38, 39}) {
            x.reset();
            x.start(0, place, 0);
            x.run(1);
            Due.is("the instruction at " + place, x.look(0, 2), 100 + place);
        }
    }

    private static void firstThatHolds() {
        ProcessTurns x = new ProcessTurns();
        Due.is("add(-1, -1)", x.add(-1, -1), -1);
        for (int i = 0; i < 40; i++) {
            x.add(0, 0);
        }
        Due.is("full, add(16, 0)", x.add(16, 0), -1);
        Due.is("full, add(-1, -1)", x.add(-1, -1), -1);
        Due.is("full, add(2, 4)", x.add(2, 4), -2);
        Due.is("full, add(8, 40)", x.add(8, 40), -2);
        Due.is("full, add(14, -1)", x.add(14, -1), -2);
        Due.is("full, add(2, 3)", x.add(2, 3), -3);
    }

    private static void opIsNone() {
        for (int op : new int[] {Due.MIN, -2, -1, 16, 17, Due.MAX}) {
            Due.is("add(" + op + ", 0)", new ProcessTurns().add(op, 0), -1);
        }
        for (int op = 0; op <= 15; op++) {
            Due.is("add(" + op + ", 0)", new ProcessTurns().add(op, 0), 0);
        }
    }

    private static void operandUpTo(int op, int most) {
        for (int k = 0; k <= most; k++) {
            Due.is("add(" + op + ", " + k + ")", new ProcessTurns().add(op, k), 0);
        }
        for (int k : new int[] {Due.MIN, -2, -1, most + 1, most + 2, Due.MAX}) {
            Due.is("add(" + op + ", " + k + ")", new ProcessTurns().add(op, k), -2);
        }
    }

    private static void wordsAndChannels() {
        for (int op : new int[] {2, 3, 10, 11}) {
            operandUpTo(op, 3);
        }
    }

    private static void places() {
        operandUpTo(8, 39);
        operandUpTo(9, 39);
    }

    private static void starts() {
        operandUpTo(14, 79);
    }

    private static void others() {
        for (int op : new int[] {0, 1, 4, 5, 6, 7, 12, 13, 15}) {
            for (int k : new int[] {Due.MIN, -1, 0, 4, 40, 80, Due.MAX}) {
                Due.is("add(" + op + ", " + k + ")", new ProcessTurns().add(op, k), 0);
            }
        }
    }

    private static void thereAreForty() {
        for (int op = 0; op <= 15; op++) {
            ProcessTurns x = new ProcessTurns();
            for (int i = 0; i < 39; i++) {
                x.add(0, 0);
            }
            Due.is("the 40th, add(" + op + ", 0)", x.add(op, 0), 39);
            Due.is("one more, add(" + op + ", 0)", x.add(op, 0), -3);
            Due.is("again, add(" + op + ", 0)", x.add(op, 0), -3);
        }
    }
}
