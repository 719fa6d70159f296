/** What is said of messages, and promises 13 and 14. */
public final class MessageTest {
    public static void main(String[] args) {
        sentences();
        Due.end();
    }

    static void sentences() {
        Due.holds("Terms", "MESSAGES are counted from 0 in the order in which they were put into registers;",
            MessageTest::inTheOrderTheyWerePut);
        Due.holds("Terms", "the last 16 are remembered.", MessageTest::theLastSixteen);
        Due.holds("Promise 13", "How many messages there were.", MessageTest::howMany);
        Due.holds("Promise 14", "Of the n-th message counted back from the latest one (0):", MessageTest::countedBack);
        Due.holds("Promise 14", "0 its channel, 1 the sender, 2 the receiver, 3 the message, 4 the clock at its step, "
            + "by what;", MessageTest::byWhat);
        Due.holds("Promise 14", "4294967296 if it is not remembered,", MessageTest::notRemembered);
        Due.holds("Promise 14", "or what is another number.", MessageTest::anotherNumber);
    }

    /** Process 1 sends 0, 1, 2 and on to process 0 over channel 3, at the clock 2, 11, 20 and on. */
    private static ProcessTurns afterMessages(int count) {
        ProcessTurns x = Due.with(11, 3, 8, 0, 2, 0, 10, 3, 2, 0, 1, 1, 4, 0, 3, 0, 8, 2);
        x.start(0, 0, 0);
        x.start(0, 2, 0);
        x.run(count == 0 ? 0 : 9 * count - 6);
        return x;
    }

    private static void inTheOrderTheyWerePut() {
        ProcessTurns x = Due.with(10, 0, 10, 1, 11, 1, 11, 0);
        x.start(1, 0, 50);
        x.start(1, 1, 60);
        x.start(1, 2, 0);
        x.start(1, 3, 0);
        x.run(2);
        Due.is("a message that waits is not counted", x.messages(), 0);
        x.run(1);
        Due.is("the first one", x.messages(), 1);
        Due.is("sent last, but put first", x.message(0, 3), 60);
        x.run(2);
        Due.is("the second one", x.messages(), 2);
        Due.is("sent first, but put last", x.message(0, 3), 50);
        Due.is("the one before", x.message(1, 3), 60);
    }

    private static void theLastSixteen() {
        for (int count : new int[] {15, 16, 17, 18, 31, 32, 33}) {
            ProcessTurns x = afterMessages(count);
            int last = Math.min(count, 16) - 1;
            Due.is("of " + count + ", message(" + last + ", 3)", x.message(last, 3), count - 1 - last);
            Due.is("of " + count + ", message(" + (last + 1) + ", 3)", x.message(last + 1, 3), Due.NOTHING);
        }
    }

    private static void howMany() {
        for (int count : new int[] {0, 1, 2, 15, 16, 17, 33}) {
            Due.is("messages", afterMessages(count).messages(), count);
        }
        ProcessTurns x = afterMessages(17);
        x.reset();
        x.setClock(0);
        Due.is("behind a reset", x.messages(), 17);
    }

    private static void countedBack() {
        for (int count : new int[] {1, 2, 15, 16, 17, 33}) {
            ProcessTurns x = afterMessages(count);
            for (int n = 0; n < 16 && n < count; n++) {
                Due.is("of " + count + ", message(" + n + ", 3)", x.message(n, 3), count - 1 - n);
            }
        }
    }

    private static void byWhat() {
        for (int k = 0; k < 4; k++) {
            ProcessTurns x = Due.with(10, k, 11, k);
            x.setClock(Due.MAX);
            x.start(0, 0, Due.MIN);
            x.start(1, 1, 0);
            x.run(2);
            Due.message("sender first", x, 0, k, 0, 1, Due.MIN, Due.MIN);
            x.setClock(Due.MAX);
            Due.is("the clock at its step stays", x.message(0, 4), Due.MIN);
        }
        ProcessTurns x = Due.with(11, 2, 10, 2);
        for (int p = 0; p < 8; p++) {
            x.start(p == 3 || p == 7 ? 0 : 1, p == 3 ? 0 : 1, Due.MAX);
        }
        x.run(2);
        Due.message("receiver first", x, 0, 2, 7, 3, Due.MAX, 1);
    }

    private static void notRemembered() {
        ProcessTurns x = new ProcessTurns();
        for (int n : new int[] {Due.MIN, -1, 0, 1, 15, 16, Due.MAX}) {
            Due.is("of none, message(" + n + ", 0)", x.message(n, 0), Due.NOTHING);
        }
        x = afterMessages(1);
        for (int n : new int[] {Due.MIN, -2, -1, 1, 2, 15, 16, 17, Due.MAX}) {
            for (int what = 0; what < 5; what++) {
                Due.is("of one, message(" + n + ", " + what + ")", x.message(n, what), Due.NOTHING);
            }
        }
        x = afterMessages(33);
        for (int n : new int[] {Due.MIN, -2, -1, 16, 17, 32, 33, Due.MAX}) {
            for (int what = 0; what < 5; what++) {
                Due.is("of 33, message(" + n + ", " + what + ")", x.message(n, what), Due.NOTHING);
            }
        }
    }

    private static void anotherNumber() {
        ProcessTurns x = afterMessages(20);
        for (int n : new int[] {0, 1, 15}) {
            for (int what : new int[] {Due.MIN, -2, -1, 5, 6, Due.MAX}) {
                Due.is("message(" + n + ", " + what + ")", x.message(n, what), Due.NOTHING);
            }
        }
    }
}
