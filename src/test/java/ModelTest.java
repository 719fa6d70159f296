import java.util.ArrayList;
import java.util.List;

/**
 * Long runs of calls, each answer held against a second, slower writing of the document. The runs are the same
 * each time.
 */
public final class ModelTest {
    private static final int RUNS = 3000;
    private static final int CALLS = 512;
    private static final int[] EDGES = {
        Integer.MIN_VALUE, Integer.MIN_VALUE + 1, -2, -1, 0, 1, 2, 3, 4, 8, 9, 15, 16, 39, 40, 79, 80, 400, 401,
        Integer.MAX_VALUE - 1, Integer.MAX_VALUE};

    private static long seed = 20261116L;

    public static void main(String[] args) {
        for (int i = 0; i < RUNS; i++) {
            oneRun(i);
        }
        Due.end();
    }

    private static int any(int bound) {
        seed = seed * 6364136223846793005L + 1442695040888963407L;
        return (int) ((seed >>> 33) % bound);
    }

    private static int edge() {
        return EDGES[any(EDGES.length)];
    }

    /** Mostly a number below the bound, now and then any other. */
    private static int near(int bound) {
        return any(25) == 0 ? edge() : any(bound);
    }

    private static void oneRun(int run) {
        ProcessTurns x = new ProcessTurns();
        Model m = new Model();
        int length = 4 + any(38);
        int calls = 0;
        for (int i = 0; i < length; i++, calls++) {
            addOne(run, x, m, length);
        }
        while (calls < CALLS) {
            change(run, x, m, length, any(8) == 0);
            calls++;
            for (int i = any(12); i > 0 && calls < CALLS; i--, calls++) {
                ask(run, x, m);
            }
        }
    }

    private static void addOne(int run, ProcessTurns x, Model m, int length) {
        int op = near(16);
        if (op == 0 || op == 15) {
            op = near(16);
        }
        int k = near(op == 8 || op == 9 ? length : op == 14 ? 2 * length : op == 1 ? 12 : 4);
        Due.is("run " + run + " add(" + op + ", " + k + ")", x.add(op, k), m.add(op, k));
    }

    private static void change(int run, ProcessTurns x, Model m, int length, boolean rare) {
        int which = rare ? 2 + any(3) : any(2);
        if (which == 0) {
            int priority = near(2);
            int place = near(Math.min(length, 40));
            int a = any(3) == 0 ? edge() : m.clock + any(20);
            Due.is("run " + run + " start(" + priority + ", " + place + ", " + a + ")",
                x.start(priority, place, a), m.start(priority, place, a));
        } else if (which == 1) {
            int n = any(3) > 0 ? 1 : any(10) == 0 ? edge() : any(30);
            Due.is("run " + run + " run(" + n + ")", x.run(n), m.run(n));
        } else if (which == 2) {
            int t = any(2) == 0 ? edge() : m.clock + any(41) - 20;
            x.setClock(t);
            m.clock = t;
        } else if (which == 3 && any(2) == 0) {
            x.reset();
            m.reset();
        } else {
            addOne(run, x, m, length);
        }
    }

    private static void ask(int run, ProcessTurns x, Model m) {
        int i = near(8);
        int what = near(9);
        String of = "run " + run + " (" + i + ", " + what + ") ";
        switch (any(9)) {
            case 0 -> Due.is(of + "clock", x.clock(), m.clock);
            case 1 -> Due.is(of + "running", x.running(), m.running);
            case 2 -> Due.is(of + "state", x.state(i), m.state(i));
            case 3, 4 -> Due.is(of + "look", x.look(i, what), m.look(i, what));
            case 5 -> Due.is(of + "waiting", x.waiting(i & 1, what), m.waiting(i & 1, what));
            case 6 -> Due.is(of + "channel", x.channel(i), m.channel(i));
            case 7 -> Due.is(of + "messages", x.messages(), m.messages.size());
            default -> Due.is(of + "message", x.message(2 * i, what), m.message(2 * i, what));
        }
    }

    /** The document once more, with lists that grow: nothing is shared with the class but the document. */
    private static final class Model {
        final List<int[]> program = new ArrayList<>();
        final int[] states = new int[8];
        /** By process: priority, place, A, B, C and the words, as look counts them. */
        final int[][] parts = new int[8][9];
        final int[] times = new int[8];
        final List<List<Integer>> rows = List.of(new ArrayList<>(), new ArrayList<>());
        /** By channel: its answer and the message that waits. */
        final int[][] channels = new int[4][2];
        final List<int[]> messages = new ArrayList<>();
        int clock = 0;
        int running = -1;
        int done = 0;

        int add(int op, int k) {
            if (op < 0 || op > 15) {
                return -1;
            }
            int end = List.of(2, 3, 10, 11).contains(op) ? 4 : List.of(8, 9).contains(op) ? 40 : op == 14 ? 80 : 0;
            if (end > 0 && (k < 0 || k >= end)) {
                return -2;
            }
            if (program.size() == 40) {
                return -3;
            }
            program.add(new int[] {op, k});
            return program.size() - 1;
        }

        int start(int priority, int place, int a) {
            if ((priority != 0 && priority != 1) || place < 0 || place > 39) {
                return -1;
            }
            for (int p = 0; p < 8; p++) {
                if (states[p] == 0) {
                    parts[p] = new int[] {priority, place, a, 0, 0, 0, 0, 0, 0};
                    ready(p);
                    return p;
                }
            }
            return -2;
        }

        void ready(int p) {
            states[p] = 1;
            rows.get(parts[p][0]).add(p);
        }

        int run(int n) {
            if (n < 0 || n > 400) {
                return -1;
            }
            int idle = 0;
            for (int i = 0; i < n; i++) {
                idle += step();
            }
            return idle;
        }

        void reset() {
            for (int p = 0; p < 8; p++) {
                states[p] = 0;
            }
            for (int[] channel : channels) {
                channel[0] = 0;
            }
            rows.get(0).clear();
            rows.get(1).clear();
            running = -1;
        }

        int step() {
            for (int p = 0; p < 8; p++) {
                if (states[p] == 4 && times[p] - clock <= 0) {
                    ready(p);
                }
            }
            if (running >= 0 && parts[running][0] == 1 && !rows.get(0).isEmpty()) {
                states[running] = 1;
                rows.get(1).add(0, running);
                running = -1;
            }
            for (List<Integer> row : rows) {
                if (running < 0 && !row.isEmpty()) {
                    running = row.remove(0);
                    states[running] = 2;
                    done = 0;
                }
            }
            int idle = running < 0 ? 1 : 0;
            if (running >= 0) {
                instruction(running);
                if (states[running] != 2) {
                    running = -1;
                }
            }
            clock++;
            return idle;
        }

        void put(int p, int x) {
            parts[p][4] = parts[p][3];
            parts[p][3] = parts[p][2];
            parts[p][2] = x;
        }

        int drop(int p) {
            int a = parts[p][2];
            parts[p][2] = parts[p][3];
            parts[p][3] = parts[p][4];
            return a;
        }

        void instruction(int p) {
            int[] now = parts[p].clone();
            done++;
            int[] it = now[1] < program.size() ? program.get(now[1]) : new int[] {0, 0};
            int k = it[1];
            int a = now[2];
            int b = now[3];
            parts[p][1]++;
            switch (it[0]) {
                case 0 -> stop(p, now);
                case 1 -> put(p, k);
                case 2 -> put(p, now[5 + k]);
                case 3 -> parts[p][5 + k] = drop(p);
                case 4 -> result(p, b + a);
                case 5 -> result(p, b - a);
                case 6 -> result(p, b * a);
                case 7 -> result(p, Integer.compare(b, a) > 0 ? 1 : 0);
                case 8 -> {
                    parts[p][1] = k;
                    if (now[0] == 1 && done > 7) {
                        ready(p);
                    }
                }
                case 9 -> {
                    if (a == 0) {
                        parts[p][1] = k;
                    } else {
                        drop(p);
                    }
                }
                case 10, 11 -> overChannel(p, k, it[0] == 10, now);
                case 12 -> put(p, clock);
                case 13 -> {
                    times[p] = drop(p);
                    states[p] = times[p] - clock <= 0 ? 2 : 4;
                }
                case 14 -> put(p, Math.max(-1, start(k % 2, k / 2, a)));
                default -> states[p] = 0;
            }
        }

        void stop(int p, int[] before) {
            parts[p] = before;
            states[p] = 5;
        }

        void result(int p, int x) {
            drop(p);
            parts[p][2] = x;
        }

        void overChannel(int p, int k, boolean sends, int[] before) {
            int there = channels[k][0];
            if (there != 0 && there < 16 == sends) {
                stop(p, before);
                return;
            }
            int x = sends ? drop(p) : channels[k][1];
            if (there == 0) {
                channels[k][0] = (sends ? 8 : 16) + p;
                channels[k][1] = x;
                states[p] = 3;
                return;
            }
            int other = there % 8;
            put(sends ? other : p, x);
            messages.add(new int[] {k, sends ? p : other, sends ? other : p, x, clock});
            channels[k][0] = 0;
            ready(other);
        }

        int state(int p) {
            return p < 0 || p > 7 ? -1 : states[p];
        }

        long look(int p, int what) {
            return state(p) <= 0 || what < 0 || what > 8 ? Due.NOTHING : parts[p][what];
        }

        int waiting(int priority, int i) {
            if (priority < 0 || priority > 1 || i < 0 || i >= rows.get(priority).size()) {
                return -1;
            }
            return rows.get(priority).get(i);
        }

        int channel(int k) {
            return k < 0 || k > 3 ? -1 : channels[k][0];
        }

        long message(int n, int what) {
            if (n < 0 || n > 15 || n >= messages.size() || what < 0 || what > 4) {
                return Due.NOTHING;
            }
            return messages.get(messages.size() - 1 - n)[what];
        }
    }
}
