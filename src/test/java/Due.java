import java.util.ArrayList;
import java.util.List;

/** Counts the answers of one test that are not the ones that are due, and tells the sentence that they break. */
final class Due {
    static final long NOTHING = 4294967296L;
    static final int MIN = Integer.MIN_VALUE;
    static final int MAX = Integer.MAX_VALUE;

    private static final List<Sentence> SENTENCES = new ArrayList<>();
    private static boolean listing = false;
    private static String sentence = "";
    private static int wrong = 0;

    private Due() {
    }

    /** Words of the document, and the section where they stand. */
    record Sentence(String section, String words) {
    }

    /** Runs the test that the words of a section of the document have for their own. */
    static void holds(String section, String words, Runnable test) {
        SENTENCES.add(new Sentence(section, words));
        if (listing) {
            return;
        }
        sentence = section + " '" + words + "': ";
        try {
            test.run();
        } catch (RuntimeException thrown) {
            wrong++;
            System.out.println(sentence + "threw " + thrown);
        }
        sentence = "";
    }

    /** The sentences that the given tests are for; none of the tests is run. */
    static List<Sentence> sentencesOf(List<Runnable> tests) {
        listing = true;
        for (Runnable test : tests) {
            test.run();
        }
        listing = false;
        return List.copyOf(SENTENCES);
    }

    static void is(String call, long got, long want) {
        if (got != want) {
            wrong++;
            System.out.println(sentence + call + " answered " + got + ", due is " + want);
        }
    }

    static void same(String call, String got, String want) {
        if (!got.equals(want)) {
            wrong++;
            System.out.println(sentence + call + " is " + got + ", due is " + want);
        }
    }

    /** A new object with a program of op and k by turns. */
    static ProcessTurns with(int... program) {
        ProcessTurns x = new ProcessTurns();
        for (int i = 0; i + 1 < program.length; i += 2) {
            is("add(" + program[i] + ", " + program[i + 1] + ")", x.add(program[i], program[i + 1]), i / 2);
        }
        return x;
    }

    /** Asks for place, A, B and C of a process at once. */
    static void registers(String when, ProcessTurns x, int p, int place, int a, int b, int c) {
        is(when + ": place of " + p, x.look(p, 1), place);
        is(when + ": A of " + p, x.look(p, 2), a);
        is(when + ": B of " + p, x.look(p, 3), b);
        is(when + ": C of " + p, x.look(p, 4), c);
    }

    /** Asks for the states of the processes from 0 on. */
    static void states(String when, ProcessTurns x, int... want) {
        for (int p = 0; p < want.length; p++) {
            is(when + ": state(" + p + ")", x.state(p), want[p]);
        }
    }

    /** Asks for the channels from 0 on. */
    static void channels(String when, ProcessTurns x, int... want) {
        for (int k = 0; k < want.length; k++) {
            is(when + ": channel(" + k + ")", x.channel(k), want[k]);
        }
    }

    /** Asks for the whole row of a priority. */
    static void row(String when, ProcessTurns x, int priority, int... want) {
        for (int i = 0; i < want.length; i++) {
            is(when + ": waiting(" + priority + ", " + i + ")", x.waiting(priority, i), want[i]);
        }
        is(when + ": end of row " + priority, x.waiting(priority, want.length), -1);
    }

    /** Asks for the parts of the n-th message back. */
    static void message(String when, ProcessTurns x, int n, long... want) {
        for (int what = 0; what < want.length; what++) {
            is(when + ": message(" + n + ", " + what + ")", x.message(n, what), want[what]);
        }
    }

    static void end() {
        if (wrong != 0) {
            System.out.println(wrong + " answers are not as due");
            System.exit(1);
        }
    }
}
