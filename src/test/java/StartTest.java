/** Promise 3. */
public final class StartTest {
    private static final String PROMISE = "Promise 3";

    public static void main(String[] args) {
        sentences();
        Due.end();
    }

    static void sentences() {
        Due.holds(PROMISE, "Starts a process from outside, with priority 0 or 1, at a place 0 .. 39, its A a,",
            StartTest::priorityPlaceAndA);
        Due.holds(PROMISE, "all else 0;", StartTest::allElseZero);
        Due.holds(PROMISE, "it becomes ready:", StartTest::becomesReady);
        Due.holds(PROMISE, "its number, the least free one.", StartTest::leastFree);
        Due.holds(PROMISE, "Refused, first that holds:", StartTest::firstThatHolds);
        Due.holds(PROMISE, "-1 priority or place is another number;", StartTest::anotherNumber);
        Due.holds(PROMISE, "-2 none is free.", StartTest::noneIsFree);
    }

    private static void priorityPlaceAndA() {
        for (int priority = 0; priority <= 1; priority++) {
            for (int place : new int[] {0, 1, 38, 39}) {
                for (int a : new int[] {Due.MIN, -1, 0, 1, Due.MAX}) {
                    ProcessTurns x = new ProcessTurns();
                    String call = "start(" + priority + ", " + place + ", " + a + ")";
                    Due.is(call, x.start(priority, place, a), 0);
                    Due.is(call + " priority", x.look(0, 0), priority);
                    Due.registers(call, x, 0, place, a, 0, 0);
                }
            }
        }
    }

    private static void allElseZero() {
        ProcessTurns x = Due.with(1, 4, 3, 0, 1, 5, 3, 1, 1, 6, 3, 2, 1, 7, 3, 3, 1, 8, 1, 9, 15, 0);
        x.start(1, 0, 3);
        x.run(10);
        Due.registers("all in use", x, 0, 10, 9, 8, 3);
        Due.is("word 3 in use", x.look(0, 8), 7);
        x.run(1);
        Due.is("the number is taken again", x.start(0, 4, 1), 0);
        for (int what = 3; what <= 8; what++) {
            Due.is("look(0, " + what + ")", x.look(0, what), 0);
        }
    }

    private static void becomesReady() {
        ProcessTurns x = Due.with(1, 1, 1, 1, 1, 1);
        x.start(1, 0, 0);
        x.run(1);
        x.start(1, 0, 0);
        x.start(0, 0, 0);
        x.start(1, 0, 0);
        x.start(0, 0, 0);
        Due.states("till the next step", x, 2, 1, 1, 1, 1, 0, 0, 0);
        Due.is("the one that runs", x.running(), 0);
        Due.row("at the end of its row", x, 0, 2, 4);
        Due.row("at the end of its row", x, 1, 1, 3);
    }

    private static void leastFree() {
        ProcessTurns x = Due.with(15, 0, 0, 0);
        for (int p = 0; p < 8; p++) {
            Due.is("start", x.start(1, p == 2 || p == 5 || p == 7 ? 0 : 1, 0), p);
        }
        x.run(8);
        Due.states("three ended", x, 5, 5, 0, 5, 5, 0, 5, 0);
        Due.is("least free", x.start(1, 0, 0), 2);
        Due.is("next free", x.start(0, 0, 0), 5);
        Due.is("last free", x.start(1, 0, 0), 7);
    }

    private static void firstThatHolds() {
        ProcessTurns x = new ProcessTurns();
        for (int p = 0; p < 8; p++) {
            x.start(0, 0, 0);
        }
        Due.is("none free, start(2, 0, 0)", x.start(2, 0, 0), -1);
        Due.is("none free, start(-1, 40, 0)", x.start(-1, 40, 0), -1);
        Due.is("none free, start(0, 40, 0)", x.start(0, 40, 0), -1);
        Due.is("none free, start(1, -1, 0)", x.start(1, -1, 0), -1);
        Due.is("none free, start(1, 39, 0)", x.start(1, 39, 0), -2);
    }

    private static void anotherNumber() {
        for (int priority : new int[] {Due.MIN, -2, -1, 2, 3, Due.MAX}) {
            for (int place : new int[] {0, 39, 40}) {
                Due.is("start(" + priority + ", " + place + ", 0)", new ProcessTurns().start(priority, place, 0), -1);
            }
        }
        for (int place : new int[] {Due.MIN, -2, -1, 40, 41, Due.MAX}) {
            Due.is("start(0, " + place + ", 0)", new ProcessTurns().start(0, place, 0), -1);
            Due.is("start(1, " + place + ", 0)", new ProcessTurns().start(1, place, 0), -1);
        }
    }

    /** One that runs, one that stopped, and some that wait are not free. */
    private static void noneIsFree() {
        ProcessTurns x = Due.with(0, 0, 10, 0, 11, 1, 13, 0, 8, 4);
        for (int p = 0; p < 8; p++) {
            Due.is("process " + p, x.start(1, Math.min(p, 4), 1000), p);
        }
        Due.is("all ready", x.start(1, 0, 0), -2);
        x.run(5);
        Due.states("not free", x, 5, 3, 3, 4, 2, 1, 1, 1);
        Due.is("in every state, low", x.start(1, 0, 0), -2);
        Due.is("in every state, high", x.start(0, 39, Due.MAX), -2);
    }
}
