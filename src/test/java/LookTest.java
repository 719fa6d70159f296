/** Promise 10. */
public final class LookTest {
    private static final String PROMISE = "Promise 10";

    public static void main(String[] args) {
        sentences();
        Due.end();
    }

    static void sentences() {
        Due.holds(PROMISE, "Of process p: 0 its priority, 1 its place, 2 A, 3 B, 4 C, 5 to 8 its words 0 to 3, "
            + "by what;", LookTest::allParts);
        Due.holds(PROMISE, "4294967296 if p is free", LookTest::free);
        Due.holds(PROMISE, "or there is none,", LookTest::noSuchProcess);
        Due.holds(PROMISE, "or what is another number.", LookTest::anotherNumber);
    }

    /** Process 0 at its END, with another value in every part. */
    private static ProcessTurns filled() {
        ProcessTurns x = Due.with(1, -1, 3, 0, 1, -2, 3, 1, 1, -3, 3, 2, 1, -4, 3, 3, 1, -5, 1, -6, 1, -7, 15, 0);
        x.start(1, 0, 0);
        x.run(11);
        return x;
    }

    private static void allParts() {
        ProcessTurns x = filled();
        long[] want = {1, 11, -7, -6, -5, -1, -2, -3, -4};
        for (int what = 0; what < want.length; what++) {
            Due.is("look(0, " + what + ")", x.look(0, what), want[what]);
        }
        for (int p = 1; p < 8; p++) {
            x.start(0, 32 + p, p == 7 ? Due.MIN : Due.MAX);
        }
        Due.is("look(7, 0) of a ready one", x.look(7, 0), 0);
        Due.registers("the last one, ready", x, 7, 39, Due.MIN, 0, 0);
        Due.registers("the one before", x, 6, 38, Due.MAX, 0, 0);
        x.run(7);
        Due.registers("the last one, stopped", x, 7, 39, Due.MIN, 0, 0);
    }

    private static void free() {
        ProcessTurns x = filled();
        for (int what = 0; what < 9; what++) {
            Due.is("never started, look(7, " + what + ")", x.look(7, what), Due.NOTHING);
        }
        x.run(1);
        for (int what = 0; what < 9; what++) {
            Due.is("ended, look(0, " + what + ")", x.look(0, what), Due.NOTHING);
        }
        x = filled();
        x.reset();
        for (int what = 0; what < 9; what++) {
            Due.is("reset, look(0, " + what + ")", x.look(0, what), Due.NOTHING);
        }
    }

    private static void noSuchProcess() {
        ProcessTurns x = new ProcessTurns();
        for (int p = 0; p < 8; p++) {
            x.start(0, 0, 0);
        }
        for (int p : new int[] {Due.MIN, -2, -1, 8, 9, Due.MAX}) {
            for (int what = -1; what <= 9; what++) {
                Due.is("look(" + p + ", " + what + ")", x.look(p, what), Due.NOTHING);
            }
        }
    }

    private static void anotherNumber() {
        ProcessTurns x = filled();
        for (int what : new int[] {Due.MIN, -2, -1, 9, 10, Due.MAX}) {
            Due.is("look(0, " + what + ")", x.look(0, what), Due.NOTHING);
        }
    }
}
