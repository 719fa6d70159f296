/** Promises 13 and 14. */
public final class MessageTest {
    public static void main(String[] args) {
        theLastSixteen();
        wrongInputs();
        Due.end();
    }

    /** One sends 0, 1, 2 and on over channel 3, the other receives them all. */
    private static ProcessTurns counting() {
        ProcessTurns x = Due.with(2, 0, 10, 3, 2, 0, 1, 1, 4, 0, 3, 0, 8, 0, 11, 3, 8, 7);
        x.start(0, 7, 0);
        x.start(0, 0, 0);
        return x;
    }

    private static void theLastSixteen() {
        for (int count : new int[] {1, 2, 15, 16, 17, 20, 33}) {
            ProcessTurns x = counting();
            long[] clocks = runTill(x, count);
            Due.is("messages", x.messages(), count);
            for (int n = 0; n < 16 && n < count; n++) {
                int sent = count - 1 - n;
                Due.message("of " + count, x, n, 3, 1, 0, sent, clocks[sent]);
            }
            Due.is("not remembered, of " + count, x.message(Math.min(count, 16), 3), Due.NOTHING);
            x.setClock(-5);
            Due.is("the clock of its step stays", x.message(0, 4), clocks[count - 1]);
        }
    }

    /** From the second message on each takes the same number of steps, so few calls are enough. */
    private static long[] runTill(ProcessTurns x, int count) {
        long[] clocks = new long[count];
        for (int i = 0; i < count; i++) {
            if (i >= 3) {
                x.run((int) (clocks[2] - clocks[1]) - 1);
                Due.is("not yet", x.messages(), i);
            }
            for (int step = 0; step < 50 && x.messages() == i; step++) {
                clocks[i] = x.clock();
                x.run(1);
            }
        }
        return clocks;
    }

    private static void wrongInputs() {
        ProcessTurns x = Due.with(10, 2, 11, 2);
        x.setClock(Integer.MIN_VALUE);
        x.start(0, 0, Integer.MIN_VALUE);
        x.start(1, 1, 0);
        for (int what = 0; what < 5; what++) {
            Due.is("none yet", x.message(0, what), Due.NOTHING);
        }
        x.run(2);
        Due.message("negative", x, 0, 2, 0, 1, Integer.MIN_VALUE, Integer.MIN_VALUE + 1);
        for (int n : new int[] {-1, 1, 15, 16, Integer.MIN_VALUE, Integer.MAX_VALUE}) {
            Due.is("message(" + n + ", 0)", x.message(n, 0), Due.NOTHING);
        }
        for (int what : new int[] {-1, 5, Integer.MIN_VALUE, Integer.MAX_VALUE}) {
            Due.is("message(0, " + what + ")", x.message(0, what), Due.NOTHING);
        }
    }
}
