/** Promise 11. */
public final class WaitingTest {
    public static void main(String[] args) {
        ProcessTurns x = Due.with(0, 0);
        for (int p = 0; p < 8; p++) {
            x.start(p % 3 == 0 ? 0 : 1, 0, 0);
        }
        Due.row("started", x, 0, 0, 3, 6);
        Due.row("started", x, 1, 1, 2, 4, 5, 7);
        x.run(1);
        Due.row("one taken", x, 0, 3, 6);
        x.run(2);
        Due.row("all high taken", x, 0);
        Due.row("low untouched", x, 1, 1, 2, 4, 5, 7);
        x.run(2);
        Due.row("two low taken", x, 1, 4, 5, 7);
        for (int wrong : new int[] {-1, 2, Integer.MIN_VALUE, Integer.MAX_VALUE}) {
            Due.is("priority " + wrong, x.waiting(wrong, 0), -1);
        }
        for (int wrong : new int[] {-1, 3, 7, 8, 9, Integer.MIN_VALUE, Integer.MAX_VALUE}) {
            Due.is("i " + wrong, x.waiting(1, wrong), -1);
        }
        fullRow(0);
        fullRow(1);
        Due.end();
    }

    private static void fullRow(int priority) {
        ProcessTurns x = new ProcessTurns();
        for (int p = 0; p < 8; p++) {
            x.start(priority, 0, 0);
        }
        Due.row("full", x, priority, 0, 1, 2, 3, 4, 5, 6, 7);
        Due.is("behind a full row", x.waiting(priority, 8), -1);
        Due.row("other", x, 1 - priority);
    }
}
