/** Promise 4: steps, turns and priorities. */
public final class RunTest {
    public static void main(String[] args) {
        howManySteps();
        turnsOfEightInstructions();
        onlyTheJumpEndsATurn();
        highPriorityHasNoTurns();
        lowGivesWayAndComesFirst();
        turnIsCountedAnewAfterGivingWay();
        aloneItTakesItsTurnAgain();
        Due.end();
    }

    private static void howManySteps() {
        ProcessTurns x = new ProcessTurns();
        for (int n : new int[] {-1, 401, Integer.MIN_VALUE, Integer.MAX_VALUE}) {
            Due.is("run " + n, x.run(n), -1);
        }
        Due.is("refused changes nothing", x.clock(), 0);
        Due.is("run 0", x.run(0), 0);
        Due.is("clock", x.clock(), 0);
        Due.is("run 400", x.run(400), 400);
        Due.is("idle steps count too", x.clock(), 400);
        x.add(1, 1);
        x.start(0, 0, 0);
        Due.is("two of five", x.run(5), 3);
        Due.is("clock", x.clock(), 405);
    }

    private static void turnsOfEightInstructions() {
        ProcessTurns x = Due.with(8, 0);
        x.start(1, 0, 0);
        x.start(1, 0, 0);
        x.run(7);
        Due.is("seven done", x.running(), 0);
        x.run(1);
        Due.is("eight done", x.running(), -1);
        Due.is("ready", x.state(0), 1);
        Due.row("turns", x, 1, 1, 0);
        x.run(8);
        Due.row("turns", x, 1, 0, 1);
    }

    private static void onlyTheJumpEndsATurn() {
        ProcessTurns x = Due.with(1, 1, 1, 1, 1, 1, 1, 1, 1, 1, 1, 1, 1, 1, 1, 0, 1, 0, 9, 10, 8, 0);
        x.start(1, 0, 0);
        x.start(1, 0, 0);
        x.run(10);
        Due.is("op 9 ends no turn", x.running(), 0);
        x.run(1);
        Due.is("op 8 ends it", x.running(), -1);
        Due.is("it goes on at k", x.look(0, 1), 0);
        Due.row("turns", x, 1, 1, 0);
    }

    private static void highPriorityHasNoTurns() {
        ProcessTurns x = Due.with(8, 0);
        x.start(0, 0, 0);
        x.start(0, 0, 0);
        x.start(1, 0, 0);
        x.run(400);
        Due.is("high runs on", x.running(), 0);
        Due.row("high", x, 0, 1);
        Due.row("low", x, 1, 2);
    }

    private static void lowGivesWayAndComesFirst() {
        ProcessTurns x = Due.with(1, 1, 1, 1, 1, 1, 0, 0);
        x.start(1, 0, 0);
        x.start(1, 0, 0);
        x.start(1, 0, 0);
        x.run(1);
        x.start(0, 2, 0);
        x.run(1);
        Due.is("high runs", x.running(), 3);
        Due.is("low is ready", x.state(0), 1);
        Due.row("at the beginning", x, 1, 0, 1, 2);
        Due.row("high", x, 0);
        Due.is("low did nothing", x.look(0, 1), 1);
        x.start(0, 3, 0);
        x.run(1);
        Due.is("high gives no way to high", x.state(3), 5);
        x.run(1);
        Due.is("the second high one", x.state(4), 5);
        x.run(1);
        Due.is("low runs on", x.running(), 0);
        Due.is("low does one more", x.look(0, 1), 2);
    }

    private static void turnIsCountedAnewAfterGivingWay() {
        ProcessTurns x = Due.with(8, 0, 15, 0);
        x.start(1, 0, 0);
        x.start(1, 0, 0);
        x.run(5);
        x.start(0, 1, 0);
        x.run(1);
        x.run(7);
        Due.is("seven since it began last", x.running(), 0);
        x.run(1);
        Due.is("eight since it began last", x.running(), -1);
        Due.row("turns", x, 1, 1, 0);
    }

    private static void aloneItTakesItsTurnAgain() {
        ProcessTurns x = Due.with(8, 0);
        x.start(1, 0, 0);
        Due.is("never idle", x.run(8), 0);
        Due.row("alone", x, 1, 0);
        Due.is("never idle", x.run(7), 0);
        Due.is("running", x.running(), 0);
        Due.is("never idle", x.run(1), 0);
        Due.is("running", x.running(), -1);
    }
}
