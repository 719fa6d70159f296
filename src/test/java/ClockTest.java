/** Promises 5 and 7. */
public final class ClockTest {
    public static void main(String[] args) {
        ProcessTurns x = new ProcessTurns();
        x.run(3);
        Due.is("clock", x.clock(), 3);
        for (int t : new int[] {0, -1, 12345, Integer.MIN_VALUE, Integer.MAX_VALUE}) {
            x.setClock(t);
            Due.is("clock " + t, x.clock(), t);
        }
        x.run(1);
        Due.is("clock wraps", x.clock(), Integer.MIN_VALUE);
        x.setClock(-3);
        x.start(0, 0, 0);
        x.run(5);
        Due.is("busy and idle steps", x.clock(), 2);
        Due.is("asking changes nothing", x.clock(), 2);
        Due.end();
    }
}
