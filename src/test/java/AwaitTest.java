/** Promise 4: AWAIT, with promises 5 and 9. */
public final class AwaitTest {
    private static final int MIN = Integer.MIN_VALUE;
    private static final int MAX = Integer.MAX_VALUE;

    public static void main(String[] args) {
        timesThatHaveCome();
        waitsForItsTime();
        wrappingTime();
        wakesInTheOrderOfNumbers();
        wakesBeforeLowIsGivenTheTurn();
        setClockWakes();
        Due.end();
    }

    private static ProcessTurns awaiting(int clock, int t) {
        ProcessTurns x = Due.with(13, 0);
        x.setClock(clock);
        x.start(1, 0, t);
        x.run(1);
        return x;
    }

    private static void timesThatHaveCome() {
        Due.is("now", awaiting(10, 10).state(0), 2);
        Due.is("before", awaiting(10, 9).state(0), 2);
        Due.is("later", awaiting(10, 11).state(0), 4);
        Due.is("farthest before", awaiting(0, MIN).state(0), 2);
        Due.is("farthest later", awaiting(0, MAX).state(0), 4);
        Due.is("farthest before", awaiting(-1, MAX).state(0), 2);
        Due.is("farthest later", awaiting(1, MIN).state(0), 4);
    }

    private static void waitsForItsTime() {
        ProcessTurns x = Due.with(1, 20, 1, 5, 13, 0, 1, 1);
        x.start(1, 0, 30);
        x.run(3);
        Due.is("state", x.state(0), 4);
        Due.is("running", x.running(), -1);
        Due.registers("waits", x, 0, 3, 20, 30, 30);
        Due.row("waits", x, 1);
        Due.is("idle at 3 and 4", x.run(2), 2);
        Due.is("state", x.state(0), 4);
        Due.is("not idle at 5", x.run(1), 0);
        Due.registers("goes on", x, 0, 4, 1, 20, 30);
        x = Due.with(1, 20, 1, 2, 13, 0);
        x.start(1, 0, 30);
        x.run(3);
        Due.is("runs on", x.running(), 0);
        Due.registers("no waiting", x, 0, 3, 20, 30, 30);
    }

    private static void wrappingTime() {
        ProcessTurns x = awaiting(MAX, MIN + 1);
        Due.is("clock wraps", x.clock(), MIN);
        Due.is("waits over the wrap", x.state(0), 4);
        Due.is("idle", x.run(1), 1);
        Due.is("wakes", x.run(1), 0);
        x = awaiting(0, 1000);
        x.setClock(1000 + MIN);
        Due.is("half a round off is 0 or less", x.run(1), 0);
        x = awaiting(0, 1000);
        x.setClock(1001 + MIN);
        Due.is("still ahead", x.run(1), 1);
    }

    private static void wakesInTheOrderOfNumbers() {
        ProcessTurns x = Due.with(13, 0, 8, 1);
        for (int p = 0; p < 4; p++) {
            x.start(1, 0, p == 1 ? 500 : 100 - 10 * p);
        }
        x.run(8);
        for (int p = 0; p < 4; p++) {
            Due.is("asleep " + p, x.state(p), 4);
        }
        x.start(1, 1, 0);
        x.setClock(200);
        x.run(1);
        Due.is("ready before runs first", x.running(), 4);
        Due.row("numbers, not times", x, 1, 0, 2, 3);
        Due.is("its time has not come", x.state(1), 4);
    }

    private static void wakesBeforeLowIsGivenTheTurn() {
        ProcessTurns x = Due.with(13, 0, 1, 1, 1, 1, 1, 1, 1, 1);
        x.start(0, 0, 3);
        x.run(1);
        x.start(1, 1, 0);
        x.run(2);
        Due.is("low runs", x.running(), 1);
        x.run(1);
        Due.is("high runs at its time", x.running(), 0);
        Due.row("low gave way", x, 1, 1);
    }

    private static void setClockWakes() {
        ProcessTurns x = awaiting(0, 100);
        x.setClock(100);
        Due.is("not before a step", x.state(0), 4);
        Due.is("clock", x.clock(), 100);
        Due.is("in the step", x.run(1), 0);
        x = awaiting(0, 100);
        x.setClock(99);
        Due.is("idle at 99", x.run(1), 1);
        Due.is("wakes at 100", x.run(1), 0);
        x = awaiting(0, 100);
        x.run(99);
        x.setClock(50);
        Due.is("put back it waits anew", x.run(51), 50);
    }
}
