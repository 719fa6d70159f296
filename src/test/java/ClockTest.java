/** Promises 5 and 7. */
public final class ClockTest {
    public static void main(String[] args) {
        sentences();
        Due.end();
    }

    static void sentences() {
        Due.holds("Promise 5", "The clock becomes t.", ClockTest::becomesT);
        Due.holds("Promise 7", "The clock.", ClockTest::theClock);
    }

    private static void becomesT() {
        ProcessTurns x = Due.with(13, 0);
        x.start(1, 0, 100);
        x.run(1);
        for (int t : new int[] {0, -1, 12345, Due.MIN, Due.MAX, 100}) {
            x.setClock(t);
            Due.is("clock behind setClock(" + t + ")", x.clock(), t);
            Due.is("nothing wakes before a step", x.state(0), 4);
        }
        Due.is("the step is at the time 100", x.run(1), 0);
        Due.is("clock", x.clock(), 101);
    }

    private static void theClock() {
        ProcessTurns x = new ProcessTurns();
        Due.is("at first", x.clock(), 0);
        x.run(3);
        Due.is("behind three idle steps", x.clock(), 3);
        x.setClock(-3);
        x.start(0, 0, 0);
        x.run(5);
        Due.is("behind one busy step and four idle ones", x.clock(), 2);
        Due.is("asked again", x.clock(), 2);
    }
}
