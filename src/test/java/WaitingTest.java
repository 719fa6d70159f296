/** Promise 11. */
public final class WaitingTest {
    private static final String PROMISE = "Promise 11";

    public static void main(String[] args) {
        sentences();
        Due.end();
    }

    static void sentences() {
        Due.holds(PROMISE, "The i-th process (0 the first) in the row of a priority;", WaitingTest::ithOfARow);
        Due.holds(PROMISE, "-1 if there is none.", WaitingTest::noneThere);
    }

    private static void ithOfARow() {
        ProcessTurns x = new ProcessTurns();
        for (int p = 0; p < 8; p++) {
            x.start(p % 3 == 0 ? 0 : 1, 0, 0);
        }
        Due.row("started", x, 0, 0, 3, 6);
        Due.row("started", x, 1, 1, 2, 4, 5, 7);
        x.run(1);
        Due.row("one high one taken", x, 0, 3, 6);
        x.run(2);
        Due.row("all high ones taken", x, 0);
        Due.row("no low one taken", x, 1, 1, 2, 4, 5, 7);
        x.run(2);
        Due.row("two low ones taken", x, 1, 4, 5, 7);
        for (int priority = 0; priority <= 1; priority++) {
            x = new ProcessTurns();
            for (int p = 0; p < 8; p++) {
                x.start(priority, 0, 0);
            }
            Due.row("full", x, priority, 0, 1, 2, 3, 4, 5, 6, 7);
        }
    }

    private static void noneThere() {
        ProcessTurns x = new ProcessTurns();
        for (int priority = 0; priority <= 1; priority++) {
            for (int i : new int[] {Due.MIN, -1, 0, 1, 7, 8, Due.MAX}) {
                Due.is("empty, waiting(" + priority + ", " + i + ")", x.waiting(priority, i), -1);
            }
        }
        for (int p = 0; p < 3; p++) {
            x.start(1, 0, 0);
        }
        x.start(0, 0, 0);
        for (int i : new int[] {Due.MIN, -2, -1, 3, 4, 7, 8, 9, Due.MAX}) {
            Due.is("waiting(1, " + i + ")", x.waiting(1, i), -1);
        }
        for (int i : new int[] {Due.MIN, -1, 1, 7, 8, Due.MAX}) {
            Due.is("waiting(0, " + i + ")", x.waiting(0, i), -1);
        }
        for (int priority : new int[] {Due.MIN, -2, -1, 2, 3, Due.MAX}) {
            for (int i = -1; i <= 1; i++) {
                Due.is("waiting(" + priority + ", " + i + ")", x.waiting(priority, i), -1);
            }
        }
        x.run(4);
        Due.is("one that was taken", x.waiting(1, 0), -1);
        for (int priority = 0; priority <= 1; priority++) {
            x = new ProcessTurns();
            for (int p = 0; p < 8; p++) {
                x.start(priority, 0, 0);
            }
            Due.is("behind a full row", x.waiting(priority, 8), -1);
            Due.is("the other row", x.waiting(1 - priority, 0), -1);
        }
    }
}
