/** Promise 10. */
public final class LookTest {
    public static void main(String[] args) {
        ProcessTurns x = Due.with(1, -1, 3, 0, 1, -2, 3, 1, 1, -3, 3, 2, 1, -4, 3, 3, 1, -5, 1, -6, 1, -7, 15, 0);
        x.start(1, 0, 0);
        x.run(11);
        long[] want = {1, 11, -7, -6, -5, -1, -2, -3, -4};
        for (int what = 0; what < want.length; what++) {
            Due.is("look(0, " + what + ")", x.look(0, what), want[what]);
        }
        for (int what : new int[] {-1, 9, Integer.MIN_VALUE, Integer.MAX_VALUE}) {
            Due.is("look(0, " + what + ")", x.look(0, what), Due.NOTHING);
        }
        for (int p : new int[] {-1, 8, Integer.MIN_VALUE, Integer.MAX_VALUE}) {
            Due.is("look(" + p + ", 0)", x.look(p, 0), Due.NOTHING);
        }
        Due.is("free", x.look(7, 2), Due.NOTHING);
        x.start(0, 39, Integer.MAX_VALUE);
        Due.is("ready", x.look(1, 0), 0);
        Due.is("ready", x.look(1, 1), 39);
        Due.is("ready", x.look(1, 2), Integer.MAX_VALUE);
        x.run(2);
        Due.is("stopped", x.look(1, 1), 39);
        for (int what = 0; what < 9; what++) {
            Due.is("ended", x.look(0, what), Due.NOTHING);
        }
        Due.end();
    }
}
