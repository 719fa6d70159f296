/** The paragraphs on a step. */
public final class StepTest {
    public static void main(String[] args) {
        sentences();
        Due.end();
    }

    static void sentences() {
        Due.holds("Terms", "A STEP. First the processes that wait for a time t with t - clock (wrapping) 0 or less "
            + "become ready,", StepTest::firstTheyWake);
        Due.holds("Terms", "with t - clock (wrapping) 0 or less", StepTest::wrappingTimes);
        Due.holds("Terms", "in the order of their numbers.", StepTest::inTheOrderOfNumbers);
        Due.holds("Terms", "Then, if a process of low priority runs and the row of high priority is not empty,",
            StepTest::onlyLowGivesWayToHigh);
        Due.holds("Terms", "it is put at the beginning of its row, and runs no more.", StepTest::atTheBeginning);
        Due.holds("Terms", "Then, if none runs, the first of the high row is taken off it and runs,",
            StepTest::firstOfTheHighRow);
        Due.holds("Terms", "if there is none, the first of the low row;", StepTest::firstOfTheLowRow);
        Due.holds("Terms", "it has done no instructions since it began.", StepTest::countedFromNone);
        Due.holds("Terms", "If there is none either, the step is IDLE.", StepTest::idle);
        Due.holds("Terms", "Else the one that runs does one instruction.", StepTest::oneInstruction);
        Due.holds("Terms", "(If it is not running behind that, because it waits, stopped, ended or became ready, "
            + "none runs.)", StepTest::noneRunsBehindThat);
        Due.holds("Terms", "In the end the clock becomes 1 more (wrapping).", StepTest::clockOneMore);
    }

    /** Processes with these priorities that wait for the times 100, 110 and on; others can run from 1 on. */
    private static ProcessTurns asleep(int... priorities) {
        ProcessTurns x = Due.with(13, 0, 1, 1, 1, 1, 1, 1, 1, 1, 1, 1, 0, 0);
        for (int p = 0; p < priorities.length; p++) {
            x.start(priorities[p], 0, 100 + 10 * p);
        }
        x.run(priorities.length);
        for (int p = 0; p < priorities.length; p++) {
            Due.is("asleep: state(" + p + ")", x.state(p), 4);
        }
        return x;
    }

    private static void firstTheyWake() {
        ProcessTurns x = asleep(1, 1);
        x.setClock(99);
        Due.is("one too early", x.run(1), 1);
        Due.states("at 99", x, 4, 4);
        Due.is("in the step itself", x.run(1), 0);
        Due.states("at 100", x, 2, 4);
        x = asleep(0, 1);
        x.start(1, 1, 0);
        x.setClock(98);
        x.run(2);
        Due.states("a low one runs till then", x, 4, 4, 2);
        x.run(1);
        Due.states("a high one has its turn at once", x, 2, 4, 1);
        x = asleep(1, 1);
        x.start(1, 1, 0);
        x.setClock(200);
        x.run(1);
        Due.row("while another runs", x, 1, 0, 1);
        x = Due.with(13, 0, 11, 0);
        x.start(1, 0, 5);
        Due.is("one that slept once and waits at a channel now", x.run(20), 18);
        Due.is("stays there", x.state(0), 3);
    }

    private static void wrappingTimes() {
        ProcessTurns x = asleep(1);
        x.setClock(100 + Due.MIN);
        Due.is("the least difference", x.run(1), 0);
        x = asleep(1);
        x.setClock(101 + Due.MIN);
        Due.is("the greatest difference", x.run(1), 1);
        Due.is("it still waits", x.state(0), 4);
        x = Due.with(13, 0);
        x.setClock(Due.MAX - 1);
        x.start(1, 0, Due.MIN + 2);
        x.run(1);
        Due.is("at the greatest, the least and one more", x.run(3), 3);
        Due.is("at the least and two", x.run(1), 0);
    }

    private static void inTheOrderOfNumbers() {
        ProcessTurns x = Due.with(13, 0, 1, 1, 1, 1, 1, 1);
        for (int p = 0; p < 6; p++) {
            x.start(p == 2 ? 0 : 1, 0, p == 1 ? 500 : 100 - 10 * p);
        }
        x.run(6);
        x.start(1, 1, 0);
        x.setClock(200);
        x.run(1);
        Due.is("the high one", x.running(), 2);
        Due.row("by numbers, behind the one that was ready, not by times", x, 1, 6, 0, 3, 4, 5);
        Due.is("its time has not come", x.state(1), 4);
        x = Due.with(13, 0);
        for (int p = 0; p < 8; p++) {
            x.start(0, 0, 1000 - p);
        }
        x.run(8);
        x.setClock(1000);
        x.run(1);
        Due.row("all eight at once", x, 0, 1, 2, 3, 4, 5, 6, 7);
    }

    private static void onlyLowGivesWayToHigh() {
        ProcessTurns x = Due.with(1, 1, 1, 2, 1, 3, 1, 4);
        x.start(1, 0, 0);
        x.run(1);
        x.start(1, 0, 0);
        x.run(1);
        Due.is("low gives no way to low", x.running(), 0);
        x.start(0, 0, 0);
        x.run(1);
        Due.is("low gives way to high", x.running(), 2);
        Due.registers("low did no instruction then", x, 0, 2, 2, 1, 0);
        x.start(0, 0, 0);
        x.run(1);
        Due.is("high gives no way to high", x.running(), 2);
        Due.row("the other one is ready", x, 0, 3);
    }

    private static void atTheBeginning() {
        ProcessTurns x = Due.with(1, 1, 1, 1, 1, 1, 0, 0);
        for (int p = 0; p < 7; p++) {
            x.start(1, 0, 0);
        }
        x.run(2);
        x.start(0, 3, 0);
        x.run(1);
        Due.states("it is ready", x, 1, 1, 1, 1, 1, 1, 1, 5);
        Due.is("running", x.running(), -1);
        Due.row("it is the first of all seven", x, 1, 0, 1, 2, 3, 4, 5, 6);
        Due.row("the high one is stopped", x, 0);
        x.run(1);
        Due.is("it runs first again", x.running(), 0);
        Due.registers("it goes on where it was", x, 0, 3, 1, 1, 1);
        x = Due.with(1, 1, 1, 1, 0, 0);
        x.start(1, 0, 0);
        x.run(1);
        x.start(0, 2, 0);
        x.run(1);
        Due.row("in an empty row", x, 1, 0);
    }

    private static void firstOfTheHighRow() {
        ProcessTurns x = Due.with(0, 0, 8, 1);
        x.start(1, 1, 0);
        x.start(0, 0, 0);
        x.start(0, 1, 0);
        x.start(0, 1, 0);
        x.run(1);
        Due.states("the first high one has stopped", x, 1, 5, 1, 1);
        Due.row("it is taken off", x, 0, 2, 3);
        x.run(1);
        Due.states("the next high one runs", x, 1, 5, 2, 1);
        Due.row("it is taken off", x, 0, 3);
        Due.row("no low one is", x, 1, 0);
        x.run(1);
        Due.row("one that runs stays", x, 0, 3);
        Due.is("one that runs stays", x.running(), 2);
    }

    private static void firstOfTheLowRow() {
        ProcessTurns x = Due.with(0, 0, 8, 1);
        x.start(1, 0, 0);
        x.start(0, 0, 0);
        x.start(1, 1, 0);
        x.start(1, 1, 0);
        x.run(1);
        Due.row("a high one comes first", x, 1, 0, 2, 3);
        x.run(1);
        Due.states("the first low one has stopped", x, 5, 5, 1, 1);
        Due.row("it is taken off", x, 1, 2, 3);
        x.run(1);
        Due.is("the next low one runs", x.running(), 2);
        Due.row("it is taken off", x, 1, 3);
    }

    /** A low one has its turn of eight anew each time that it begins to run. */
    private static void countedFromNone() {
        ProcessTurns x = Due.with(8, 0, 15, 0);
        x.start(1, 0, 0);
        x.run(7);
        x.start(0, 1, 0);
        x.run(1);
        x.run(7);
        Due.is("seven since it gave way", x.running(), 0);
        x.run(1);
        Due.is("eight since it gave way", x.running(), -1);
        x.run(7);
        Due.is("seven since it became ready", x.running(), 0);
        x.run(1);
        Due.is("eight since it became ready", x.running(), -1);
    }

    private static void idle() {
        ProcessTurns x = Due.with(0, 0, 10, 0, 11, 1, 13, 0);
        Due.is("all are free", x.run(1), 1);
        for (int place = 0; place < 4; place++) {
            x.start(1, place, 1000);
        }
        Due.is("one is left", x.run(4), 0);
        Due.is("all are stopped or wait", x.run(1), 1);
        Due.states("it changes none of them", x, 5, 3, 3, 4);
        Due.is("running", x.running(), -1);
        x = Due.with(8, 0);
        x.start(1, 0, 0);
        Due.is("one that became ready runs in the next step", x.run(400), 0);
    }

    private static void oneInstruction() {
        ProcessTurns x = Due.with(1, 1, 1, 2, 1, 3, 1, 4);
        x.start(0, 0, 0);
        x.start(1, 0, 0);
        for (int step = 1; step <= 4; step++) {
            Due.is("step " + step, x.run(1), 0);
            Due.is("place behind step " + step, x.look(0, 1), step);
            Due.is("A behind step " + step, x.look(0, 2), step);
            Due.is("place of the other", x.look(1, 1), 0);
        }
        Due.is("a STOP is one too", x.run(1), 0);
        Due.is("place of the other", x.look(1, 1), 0);
        x.run(1);
        Due.is("then the other does one", x.look(1, 1), 1);
    }

    private static void noneRunsBehindThat() {
        ProcessTurns x = Due.with(10, 0, 11, 1, 13, 0, 0, 0, 15, 0, 10, 0);
        for (int p = 0; p < 6; p++) {
            x.start(1, p, 1000);
        }
        x.start(1, 39, 0);
        int[] states = {3, 3, 4, 5, 0, 5, 5};
        for (int p = 0; p < states.length; p++) {
            Due.is("never idle", x.run(1), 0);
            Due.is("running behind the only step of " + p, x.running(), -1);
            Due.is("state(" + p + ")", x.state(p), states[p]);
        }
        x = Due.with(8, 0);
        x.start(1, 0, 0);
        x.run(7);
        Due.is("running", x.running(), 0);
        x.run(1);
        Due.is("became ready: running", x.running(), -1);
        Due.is("became ready: state", x.state(0), 1);
    }

    private static void clockOneMore() {
        ProcessTurns x = Due.with(12, 0, 12, 0);
        x.run(1);
        Due.is("behind an idle step", x.clock(), 1);
        x.start(0, 0, 0);
        x.run(1);
        Due.is("behind another one", x.clock(), 2);
        Due.is("in the end, not before the instruction", x.look(0, 2), 1);
        x.setClock(-1);
        x.run(1);
        Due.is("from -1", x.clock(), 0);
        x.setClock(Due.MAX);
        x.run(1);
        Due.is("from the greatest, busy", x.clock(), Due.MIN);
        x.setClock(Due.MAX);
        x.run(1);
        Due.is("from the greatest, idle", x.clock(), Due.MIN);
        x.setClock(Due.MAX - 199);
        x.run(400);
        Due.is("over the wrap in one call", x.clock(), Due.MIN + 200);
    }
}
