/** Promise 2. */
public final class AddTest {
    private static final int[] ANY = {Integer.MIN_VALUE, -1, 0, 80, Integer.MAX_VALUE};

    public static void main(String[] args) {
        placesAreCounted();
        opsOutside();
        operands();
        refusalsInOrder();
        fullProgramStaysAsItWas();
        Due.end();
    }

    private static void placesAreCounted() {
        ProcessTurns x = new ProcessTurns();
        for (int i = 0; i < 40; i++) {
            Due.is("add at " + i, x.add(i % 16, 0), i);
        }
        Due.is("add at 40", x.add(0, 0), -3);
        Due.is("add at 40 again", x.add(15, 0), -3);
    }

    private static void opsOutside() {
        ProcessTurns x = new ProcessTurns();
        for (int op : new int[] {-1, 16, Integer.MIN_VALUE, Integer.MAX_VALUE}) {
            Due.is("op " + op, x.add(op, 0), -1);
        }
        Due.is("nothing was added", x.add(0, 0), 0);
    }

    private static void operands() {
        for (int op = 0; op < 16; op++) {
            int most = mostOperand(op);
            if (most < 0) {
                for (int k : ANY) {
                    Due.is("op " + op + " k " + k, new ProcessTurns().add(op, k), 0);
                }
            } else {
                Due.is("op " + op + " least", new ProcessTurns().add(op, 0), 0);
                Due.is("op " + op + " most", new ProcessTurns().add(op, most), 0);
                for (int k : new int[] {-1, most + 1, Integer.MIN_VALUE, Integer.MAX_VALUE}) {
                    ProcessTurns x = new ProcessTurns();
                    Due.is("op " + op + " k " + k, x.add(op, k), -2);
                    Due.is("nothing was added", x.add(0, 0), 0);
                }
            }
        }
    }

    private static int mostOperand(int op) {
        if (op == 2 || op == 3 || op == 10 || op == 11) {
            return 3;
        }
        if (op == 8 || op == 9) {
            return 39;
        }
        return op == 14 ? 79 : -1;
    }

    private static void refusalsInOrder() {
        ProcessTurns x = new ProcessTurns();
        for (int i = 0; i < 40; i++) {
            x.add(0, 0);
        }
        Due.is("op before full", x.add(16, 0), -1);
        Due.is("op before k", x.add(-1, -1), -1);
        Due.is("k before full", x.add(2, 4), -2);
        Due.is("full", x.add(2, 3), -3);
    }

    private static void fullProgramStaysAsItWas() {
        ProcessTurns x = new ProcessTurns();
        for (int i = 0; i < 40; i++) {
            x.add(1, i);
        }
        x.add(15, 0);
        x.start(0, 39, 0);
        Due.is("run", x.run(2), 0);
        Due.is("behind the last is a STOP", x.state(0), 5);
        Due.registers("at the end", x, 0, 40, 39, 0, 0);
    }
}
