/** Promises 4 and 12: SEND, RECEIVE and channel. */
public final class ChannelTest {
    public static void main(String[] args) {
        senderFirst();
        receiverFirst();
        twoSenders();
        twoReceivers();
        readyAtTheEndOfItsOwnRow();
        channelsAreApart();
        noSuchChannel();
        Due.end();
    }

    /** Senders start at 0 with B = 20 and C = 30 behind the message, receivers at 4. */
    private static ProcessTurns program(int k) {
        return Due.with(1, 20, 1, 10, 10, k, 0, 0, 11, k, 0, 0);
    }

    private static void senderFirst() {
        for (int k = 0; k < 4; k++) {
            ProcessTurns x = program(k);
            x.start(1, 0, 30);
            x.start(1, 4, 7);
            x.run(3);
            Due.is("waits at the channel", x.state(0), 3);
            Due.is("running", x.running(), -1);
            Due.is("channel", x.channel(k), 8);
            Due.registers("sender", x, 0, 3, 20, 30, 30);
            Due.is("no message yet", x.messages(), 0);
            Due.row("low", x, 1, 1);
            x.run(1);
            Due.is("channel", x.channel(k), 0);
            Due.is("receiver goes on", x.running(), 1);
            Due.is("sender is ready", x.state(0), 1);
            Due.registers("receiver", x, 1, 5, 10, 7, 0);
            Due.registers("sender", x, 0, 3, 20, 30, 30);
            Due.row("low", x, 1, 0);
            Due.message("sender first", x, 0, k, 0, 1, 10, 3);
        }
    }

    private static void receiverFirst() {
        for (int k = 0; k < 4; k++) {
            ProcessTurns x = program(k);
            x.start(1, 4, 7);
            x.start(1, 0, 30);
            x.run(1);
            Due.is("waits at the channel", x.state(0), 3);
            Due.is("running", x.running(), -1);
            Due.is("channel", x.channel(k), 16);
            Due.registers("receiver", x, 0, 5, 7, 0, 0);
            x.run(3);
            Due.is("channel", x.channel(k), 0);
            Due.is("sender goes on", x.running(), 1);
            Due.is("receiver is ready", x.state(0), 1);
            Due.registers("receiver", x, 0, 5, 10, 7, 0);
            Due.registers("sender", x, 1, 3, 20, 30, 30);
            Due.row("low", x, 1, 0);
            Due.message("receiver first", x, 0, k, 1, 0, 10, 3);
        }
    }

    private static void twoSenders() {
        ProcessTurns x = program(2);
        x.start(1, 2, 100);
        x.start(1, 0, 30);
        x.start(1, 4, 0);
        x.run(4);
        Due.is("the second is stopped", x.state(1), 5);
        Due.registers("as before", x, 1, 2, 10, 20, 30);
        Due.is("running", x.running(), -1);
        Due.is("the first still waits", x.channel(2), 8);
        Due.is("state", x.state(0), 3);
        Due.is("no message", x.messages(), 0);
        x.run(1);
        Due.is("the first one's message", x.look(2, 2), 100);
    }

    private static void twoReceivers() {
        ProcessTurns x = program(1);
        x.start(1, 4, 1);
        x.start(1, 4, 2);
        x.start(1, 2, 3);
        x.run(2);
        Due.is("the second is stopped", x.state(1), 5);
        Due.registers("as before", x, 1, 4, 2, 0, 0);
        Due.is("the first still waits", x.channel(1), 16);
        x.run(1);
        Due.registers("the first gets it", x, 0, 5, 3, 1, 0);
        Due.registers("the second does not", x, 1, 4, 2, 0, 0);
        Due.is("still stopped", x.state(1), 5);
    }

    private static void readyAtTheEndOfItsOwnRow() {
        ProcessTurns x = program(0);
        x.start(0, 4, 0);
        x.run(1);
        x.start(1, 2, 5);
        x.start(1, 3, 0);
        x.run(1);
        Due.is("the low sender runs on till the next step", x.running(), 1);
        Due.row("high receiver", x, 0, 0);
        Due.row("low", x, 1, 2);
        x.run(1);
        Due.row("then it gives way", x, 1, 1, 2);
        x = program(0);
        x.start(1, 2, 5);
        x.run(1);
        x.start(1, 4, 0);
        x.start(1, 3, 0);
        x.start(1, 3, 0);
        x.run(1);
        Due.row("behind those that are ready", x, 1, 2, 3, 0);
    }

    private static void channelsAreApart() {
        ProcessTurns x = Due.with(10, 0, 10, 1, 11, 2, 11, 3);
        for (int p = 0; p < 7; p++) {
            x.start(0, p < 4 ? p : 39, 50 + p);
        }
        x.run(4);
        Due.is("channel 0", x.channel(0), 8);
        Due.is("channel 1", x.channel(1), 9);
        Due.is("channel 2", x.channel(2), 18);
        Due.is("channel 3", x.channel(3), 19);
        x.start(0, 3, 1);
        x.run(4);
        Due.is("stopped at 3", x.state(7), 5);
        x.reset();
        x.start(0, 38, 0);
        x.start(0, 0, 0);
        x.run(2);
        Due.is("channel 0", x.channel(0), 9);
        x = Due.with(10, 3);
        for (int p = 0; p < 8; p++) {
            x.start(p < 7 ? 1 : 0, p < 7 ? 39 : 0, 0);
        }
        x.run(1);
        Due.is("process 7 sends", x.channel(3), 15);
    }

    private static void noSuchChannel() {
        ProcessTurns x = new ProcessTurns();
        for (int k : new int[] {-1, 4, Integer.MIN_VALUE, Integer.MAX_VALUE}) {
            Due.is("channel " + k, x.channel(k), -1);
        }
    }
}
