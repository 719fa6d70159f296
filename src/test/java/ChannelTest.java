/** The paragraph on channels, and promise 12. */
public final class ChannelTest {
    public static void main(String[] args) {
        sentences();
        Due.end();
    }

    static void sentences() {
        Due.holds("Terms", "CHANNEL k. A SEND where a receiver waits: the message is put into the receiver's "
            + "registers, the channel is empty, the receiver becomes ready, and the sender goes on.",
            ChannelTest::receiverWaits);
        Due.holds("Terms", "A RECEIVE where a sender waits: the message is put into the registers of the one that "
            + "receives, the channel is empty, the sender becomes ready, and the receiver goes on.",
            ChannelTest::senderWaits);
        Due.holds("Terms", "Where the channel is empty, the process waits at it (its place is the next instruction "
            + "then).", ChannelTest::channelIsEmpty);
        Due.holds("Terms", "Where one waits already that does the same (another sender,", ChannelTest::anotherSender);
        Due.holds("Terms", "or another receiver):", ChannelTest::anotherReceiver);
        Due.holds("Terms", "the process is stopped, with its registers and place as they were before the "
            + "instruction.", ChannelTest::asBeforeTheInstruction);
        Due.holds("Promise 12", "Channel k: 0 empty,", ChannelTest::empty);
        Due.holds("Promise 12", "8 + p if p waits as a sender,", ChannelTest::sender);
        Due.holds("Promise 12", "16 + p if p waits as a receiver;", ChannelTest::receiver);
        Due.holds("Promise 12", "-1 if there is no such channel.", ChannelTest::noSuchChannel);
    }

    /** A sender that starts at 0 has B = 20 and C = 30 behind its message 10; a receiver starts at 4. */
    private static ProcessTurns program(int k) {
        return Due.with(1, 20, 1, 10, 10, k, 0, 0, 11, k, 0, 0);
    }

    private static void receiverWaits() {
        for (int k = 0; k < 4; k++) {
            ProcessTurns x = program(k);
            x.start(1, 4, 7);
            x.start(1, 0, 30);
            x.start(1, 3, 0);
            x.run(4);
            Due.registers("the receiver", x, 0, 5, 10, 7, 0);
            Due.registers("the sender", x, 1, 3, 20, 30, 30);
            Due.is("channel(" + k + ")", x.channel(k), 0);
            Due.states("the sender goes on", x, 1, 2, 1);
            Due.row("the receiver is the last", x, 1, 2, 0);
            Due.message("the message", x, 0, k, 1, 0, 10, 3);
        }
        ProcessTurns x = program(0);
        x.start(0, 4, 0);
        x.run(1);
        x.start(1, 2, Due.MIN);
        x.run(1);
        Due.is("a low sender runs till the next step", x.running(), 1);
        Due.row("a high receiver has its own row", x, 0, 0);
        Due.is("the least message", x.look(0, 2), Due.MIN);
    }

    private static void senderWaits() {
        for (int k = 0; k < 4; k++) {
            ProcessTurns x = program(k);
            x.start(1, 0, 30);
            x.start(1, 4, 7);
            x.start(1, 3, 0);
            x.run(4);
            Due.registers("the receiver", x, 1, 5, 10, 7, 0);
            Due.registers("the sender", x, 0, 3, 20, 30, 30);
            Due.is("channel(" + k + ")", x.channel(k), 0);
            Due.states("the receiver goes on", x, 1, 2, 1);
            Due.row("the sender is the last", x, 1, 2, 0);
            Due.message("the message", x, 0, k, 0, 1, 10, 3);
        }
        ProcessTurns x = program(0);
        x.start(0, 2, Due.MAX);
        x.run(1);
        x.start(1, 4, 0);
        x.run(1);
        Due.is("a low receiver runs till the next step", x.running(), 1);
        Due.row("a high sender has its own row", x, 0, 0);
        Due.is("the greatest message", x.look(1, 2), Due.MAX);
    }

    private static void channelIsEmpty() {
        ProcessTurns x = Due.with(10, 0, 11, 1, 10, 0, 11, 1, 0, 0);
        x.start(1, 0, 5);
        x.start(1, 1, 6);
        x.run(1);
        Due.states("at a new channel", x, 3, 1);
        Due.is("the sender's place", x.look(0, 1), 1);
        Due.row("it is in no row", x, 1, 1);
        x.run(1);
        Due.states("at a new channel", x, 3, 3);
        Due.registers("the receiver has nothing yet", x, 1, 2, 6, 0, 0);
        Due.is("no message yet", x.messages(), 0);
        Due.is("they wait on", x.run(400), 400);
        Due.states("they wait on", x, 3, 3);
        x.reset();
        x.start(1, 0, 5);
        x.run(1);
        Due.is("emptied by a reset", x.state(0), 3);
        x = Due.with(10, 0, 10, 0, 0, 0, 11, 0);
        x.start(1, 0, 5);
        x.start(1, 3, 0);
        x.run(4);
        Due.is("emptied by a RECEIVE", x.channel(0), 8);
        Due.is("the sender's place", x.look(0, 1), 2);
    }

    private static void anotherSender() {
        ProcessTurns x = program(2);
        x.start(1, 2, 100);
        x.start(1, 2, 200);
        x.start(1, 2, 300);
        x.start(1, 4, 0);
        x.run(3);
        Due.states("the second and third are stopped", x, 3, 5, 5, 1);
        Due.is("none runs", x.running(), -1);
        Due.is("the first one still waits", x.channel(2), 8);
        Due.is("no message", x.messages(), 0);
        x.run(1);
        Due.is("the first one's message", x.look(3, 2), 100);
        Due.states("the others stay stopped", x, 1, 5, 5, 2);
    }

    private static void anotherReceiver() {
        ProcessTurns x = program(1);
        x.start(1, 4, 1);
        x.start(1, 4, 2);
        x.start(1, 4, 3);
        x.start(1, 2, 9);
        x.run(3);
        Due.states("the second and third are stopped", x, 3, 5, 5, 1);
        Due.is("none runs", x.running(), -1);
        Due.is("the first one still waits", x.channel(1), 16);
        x.run(1);
        Due.is("the first one gets the message", x.look(0, 2), 9);
        Due.states("the others stay stopped", x, 1, 5, 5, 2);
    }

    private static void asBeforeTheInstruction() {
        ProcessTurns x = program(3);
        x.start(1, 2, 100);
        x.start(1, 0, 30);
        x.run(4);
        Due.registers("the second sender", x, 1, 2, 10, 20, 30);
        x = Due.with(1, 20, 1, 10, 11, 3);
        x.start(1, 2, 100);
        x.start(1, 0, 30);
        x.run(4);
        Due.registers("the second receiver", x, 1, 2, 10, 20, 30);
    }

    private static void empty() {
        ProcessTurns x = Due.with(10, 0, 11, 0, 13, 0);
        Due.channels("at first", x, 0, 0, 0, 0);
        x.start(0, 2, 1000);
        x.run(1);
        Due.channels("one waits for a time", x, 0, 0, 0, 0);
        x.start(0, 0, 0);
        x.start(0, 1, 0);
        x.run(2);
        Due.channels("behind a message, the sender was first", x, 0, 0, 0, 0);
        x.reset();
        x.start(0, 1, 0);
        x.start(0, 0, 0);
        x.run(2);
        Due.channels("behind a message, the receiver was first", x, 0, 0, 0, 0);
        x.reset();
        x.start(0, 0, 0);
        x.run(1);
        Due.channels("the others", x, 8, 0, 0, 0);
        x.reset();
        Due.channels("behind a reset", x, 0, 0, 0, 0);
    }

    /** All eight processes, at each channel. */
    private static void sender() {
        for (int k = 0; k < 4; k++) {
            for (int p = 0; p < 8; p++) {
                Due.channels("process " + p, waitingAt(10, k, p), codes(k, 8 + p));
            }
        }
    }

    private static void receiver() {
        for (int k = 0; k < 4; k++) {
            for (int p = 0; p < 8; p++) {
                Due.channels("process " + p, waitingAt(11, k, p), codes(k, 16 + p));
            }
        }
    }

    private static ProcessTurns waitingAt(int op, int k, int p) {
        ProcessTurns x = Due.with(op, k);
        for (int i = 0; i < p; i++) {
            x.start(1, 39, 0);
        }
        x.start(0, 0, 0);
        x.run(1);
        return x;
    }

    private static int[] codes(int k, int code) {
        int[] want = new int[4];
        want[k] = code;
        return want;
    }

    private static void noSuchChannel() {
        ProcessTurns x = new ProcessTurns();
        for (int k : new int[] {Due.MIN, -2, -1, 4, 5, Due.MAX}) {
            Due.is("channel(" + k + ")", x.channel(k), -1);
        }
        Due.is("channel(0)", x.channel(0), 0);
        Due.is("channel(3)", x.channel(3), 0);
    }
}
