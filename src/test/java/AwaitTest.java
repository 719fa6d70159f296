/** The paragraph on AWAIT. */
public final class AwaitTest {
    public static void main(String[] args) {
        sentences();
        Due.end();
    }

    static void sentences() {
        Due.holds("Terms", "AWAIT the time t: if t - clock (wrapping) is 0 or less the process goes on,",
            AwaitTest::goesOn);
        Due.holds("Terms", "else it waits for that time.", AwaitTest::waits);
        Due.holds("Terms", "t - clock (wrapping) is 0 or less", AwaitTest::wrapping);
    }

    private static ProcessTurns awaiting(int clock, int t) {
        ProcessTurns x = Due.with(13, 0, 1, 1, 1, 2);
        x.setClock(clock);
        x.start(1, 0, t);
        x.run(1);
        return x;
    }

    private static void goesOn() {
        for (int t : new int[] {10, 9, 0, -1000}) {
            ProcessTurns x = awaiting(10, t);
            Due.is("at 10 AWAIT " + t + ": running", x.running(), 0);
            Due.is("at 10 AWAIT " + t + ": place", x.look(0, 1), 1);
            Due.is("at 10 AWAIT " + t + ": clock", x.clock(), 11);
        }
    }

    private static void waits() {
        for (int t : new int[] {11, 12, 30}) {
            ProcessTurns x = awaiting(10, t);
            Due.is("at 10 AWAIT " + t + ": state", x.state(0), 4);
            Due.is("at 10 AWAIT " + t + ": running", x.running(), -1);
            Due.row("it is in no row", x, 1);
            Due.is("idle till " + t, x.run(t - 11), t - 11);
            Due.is("it still waits", x.state(0), 4);
            Due.is("a step at " + t, x.run(1), 0);
            Due.registers("it goes on", x, 0, 2, 1, 0, 0);
        }
        ProcessTurns x = awaiting(0, 100);
        x.run(99);
        x.setClock(50);
        Due.is("the clock was put back", x.run(51), 50);
        Due.is("it goes on", x.running(), 0);
    }

    private static void wrapping() {
        Due.is("at 0 AWAIT the least", awaiting(0, Due.MIN).state(0), 2);
        Due.is("at 0 AWAIT the greatest", awaiting(0, Due.MAX).state(0), 4);
        Due.is("at -1 AWAIT the greatest", awaiting(-1, Due.MAX).state(0), 2);
        Due.is("at -1 AWAIT one less", awaiting(-1, Due.MAX - 1).state(0), 4);
        Due.is("at 1 AWAIT the least", awaiting(1, Due.MIN).state(0), 4);
        Due.is("at the greatest AWAIT the least", awaiting(Due.MAX, Due.MIN).state(0), 4);
        Due.is("at the least AWAIT the greatest", awaiting(Due.MIN, Due.MAX).state(0), 2);
        Due.is("at the greatest AWAIT the greatest", awaiting(Due.MAX, Due.MAX).state(0), 2);
        Due.is("at the least AWAIT the least", awaiting(Due.MIN, Due.MIN).state(0), 2);
        ProcessTurns x = awaiting(Due.MAX, Due.MIN + 1);
        Due.is("waits over the wrap", x.state(0), 4);
        Due.is("idle at the least", x.run(1), 1);
        Due.is("goes on one later", x.run(1), 0);
    }
}
