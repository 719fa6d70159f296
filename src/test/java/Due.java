/** Counts the answers of one test that are not the ones that are due. */
final class Due {
    static final long NOTHING = 4294967296L;
    private static int wrong = 0;

    private Due() {
    }

    static void is(String call, long got, long want) {
        if (got != want) {
            wrong++;
            System.out.println(call + " answered " + got + ", due is " + want);
        }
    }

    /** A new object with a program of op and k by turns. */
    static ProcessTurns with(int... program) {
        ProcessTurns x = new ProcessTurns();
        for (int i = 0; i + 1 < program.length; i += 2) {
            is("add(" + program[i] + ", " + program[i + 1] + ")", x.add(program[i], program[i + 1]), i / 2);
        }
        return x;
    }

    /** Asks for place, A, B and C of a process at once. */
    static void registers(String when, ProcessTurns x, int p, int place, int a, int b, int c) {
        is(when + ": place of " + p, x.look(p, 1), place);
        is(when + ": A of " + p, x.look(p, 2), a);
        is(when + ": B of " + p, x.look(p, 3), b);
        is(when + ": C of " + p, x.look(p, 4), c);
    }

    /** Asks for the whole row of a priority. */
    static void row(String when, ProcessTurns x, int priority, int... want) {
        for (int i = 0; i < want.length; i++) {
            is(when + ": waiting(" + priority + ", " + i + ")", x.waiting(priority, i), want[i]);
        }
        is(when + ": end of row " + priority, x.waiting(priority, want.length), -1);
    }

    /** Asks for the parts of the n-th message back. */
    static void message(String when, ProcessTurns x, int n, long... want) {
        for (int what = 0; what < want.length; what++) {
            is(when + ": message(" + n + ", " + what + ")", x.message(n, what), want[what]);
        }
    }

    static void end() {
        if (wrong != 0) {
            System.out.println(wrong + " answers are not as due");
            System.exit(1);
        }
    }
}
