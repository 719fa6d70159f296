/** A processor that runs several processes by turns, with two priorities, channels and a clock. */
public final class ProcessTurns {
    private static final int PROCESSES = 8;
    private static final int CHANNELS = 4;
    private static final int WORDS = 4;
    private static final int PLACES = 40;
    private static final int MOST_STEPS = 400;
    /** A process of low priority that has done so many instructions gives way when it jumps. */
    private static final int TURN = 8;
    private static final int REMEMBERED = 16;
    private static final int PARTS = 5;

    private static final int HIGH = 0;
    private static final int LOW = 1;

    private static final int FREE = 0;
    private static final int READY = 1;
    private static final int RUNNING = 2;
    private static final int AT_CHANNEL = 3;
    private static final int ASLEEP = 4;
    private static final int STOPPED = 5;

    private static final int STOP = 0;
    private static final int PUT = 1;
    private static final int LOAD = 2;
    private static final int STORE = 3;
    private static final int PLUS = 4;
    private static final int MINUS = 5;
    private static final int TIMES = 6;
    private static final int GREATER = 7;
    private static final int JUMP = 8;
    private static final int JUMP_IF_ZERO = 9;
    private static final int SEND = 10;
    private static final int RECEIVE = 11;
    private static final int CLOCK = 12;
    private static final int AWAIT = 13;
    private static final int START = 14;
    private static final int END = 15;

    private static final int NONE = -1;
    private static final int SENDER = 8;
    private static final int RECEIVER = 16;
    /** No int has this value, so it can't be taken for an answer. */
    private static final long NOTHING = 4294967296L;

    private final Program program;
    private final Proc[] processes;
    private final Channel[] channels;
    private final Row highRow;
    private final Row lowRow;
    private final Log log;
    /** The process that runs, or null. */
    private Proc active;
    private int time;

    public ProcessTurns() {
        program = new Program();
        processes = new Proc[PROCESSES];
        for (int p = 0; p < PROCESSES; p++) {
            processes[p] = new Proc(p);
        }
        channels = new Channel[CHANNELS];
        for (int k = 0; k < CHANNELS; k++) {
            channels[k] = new Channel(k);
        }
        highRow = new Row();
        lowRow = new Row();
        log = new Log();
        active = null;
        time = 0;
    }

    public int add(int op, int k) {
        if (op < STOP || op > END) {
            return -1;
        }
        if (!isOperand(op, k)) {
            return -2;
        }
        if (program.size >= PLACES) {
            return -3;
        }
        return program.append(op, k);
    }

    public int start(int priority, int place, int a) {
        if (!isPriority(priority) || place < 0 || place >= PLACES) {
            return -1;
        }
        int number = startLeastFree(priority, place, a);
        return number == NONE ? -2 : number;
    }

    public int run(int n) {
        if (n < 0 || n > MOST_STEPS) {
            return -1;
        }
        int idle = 0;
        for (int i = 0; i < n; i++) {
            if (!step()) {
                idle++;
            }
        }
        return idle;
    }

    public void setClock(int t) {
        time = t;
    }

    public void reset() {
        for (int p = 0; p < PROCESSES; p++) {
            processes[p].state = FREE;
        }
        for (int k = 0; k < CHANNELS; k++) {
            channels[k].clear();
        }
        highRow.clear();
        lowRow.clear();
        active = null;
    }

    public int clock() {
        return time;
    }

    public int running() {
        return active == null ? NONE : active.number;
    }

    public int state(int p) {
        return isProcess(p) ? processes[p].state : NONE;
    }

    public long look(int p, int what) {
        if (!isProcess(p) || processes[p].state == FREE) {
            return NOTHING;
        }
        return processes[p].part(what);
    }

    public int waiting(int priority, int i) {
        return isPriority(priority) ? rowOf(priority).numberAt(i) : NONE;
    }

    public int channel(int k) {
        Channel c = channelAt(k);
        return c == null ? NONE : c.code();
    }

    public int messages() {
        return log.count;
    }

    public long message(int n, int what) {
        return log.part(n, what);
    }

    private static boolean isPriority(int priority) {
        return priority == HIGH || priority == LOW;
    }

    private static boolean isProcess(int p) {
        return p >= 0 && p < PROCESSES;
    }

    private static boolean isOperand(int op, int k) {
        switch (op) {
            case LOAD:
            case STORE:
                return k >= 0 && k < WORDS;
            case SEND:
            case RECEIVE:
                return k >= 0 && k < CHANNELS;
            case JUMP:
            case JUMP_IF_ZERO:
                return k >= 0 && k < PLACES;
            case START:
                return k >= 0 && k < 2 * PLACES;
            default:
                return true;
        }
    }

    private Row rowOf(int priority) {
        return priority == HIGH ? highRow : lowRow;
    }

    private Channel channelAt(int k) {
        return k >= 0 && k < CHANNELS ? channels[k] : null;
    }

    private Proc leastFree() {
        for (int p = 0; p < PROCESSES; p++) {
            if (processes[p].state == FREE) {
                return processes[p];
            }
        }
        return null;
    }

    private int startLeastFree(int priority, int place, int a) {
        Proc p = leastFree();
        if (p == null) {
            return NONE;
        }
        p.begin(priority, place, a);
        becomeReady(p);
        return p.number;
    }

    private void becomeReady(Proc p) {
        p.state = READY;
        rowOf(p.priority).putLast(p);
    }

    /** Answers whether an instruction was done; if not, the step was idle. */
    private boolean step() {
        wakeThoseWhoseTimeHasCome();
        giveWayToHigh();
        if (active == null) {
            takeNext();
        }
        Proc p = active;
        if (p != null) {
            execute(p);
            if (p.state != RUNNING) {
                active = null;
            }
        }
        time++;
        return p != null;
    }

    private void wakeThoseWhoseTimeHasCome() {
        for (int p = 0; p < PROCESSES; p++) {
            if (processes[p].state == ASLEEP && hasCome(processes[p].wakeTime)) {
                becomeReady(processes[p]);
            }
        }
    }

    /** Not t <= time: the difference wraps, so a time beyond the clock's overflow lies ahead. */
    private boolean hasCome(int t) {
        return t - time <= 0;
    }

    private void giveWayToHigh() {
        if (active != null && active.priority == LOW && highRow.size > 0) {
            active.state = READY;
            lowRow.putFirst(active);
            active = null;
        }
    }

    private void takeNext() {
        active = highRow.size > 0 ? highRow.takeFirst() : lowRow.takeFirst();
        if (active != null) {
            active.state = RUNNING;
            active.done = 0;
        }
    }

    private void execute(Proc p) {
        int op = program.opAt(p.place);
        int k = program.operandAt(p.place);
        p.done++;
        switch (op) {
            case JUMP:
                jump(p, k);
                break;
            case JUMP_IF_ZERO:
                jumpIfZero(p, k);
                break;
            case SEND:
                send(p, channelAt(k));
                break;
            case RECEIVE:
                receive(p, channelAt(k));
                break;
            case AWAIT:
                awaitTime(p);
                break;
            case START:
                p.put(startLeastFree((k & 1) == 0 ? HIGH : LOW, k / 2, p.a));
                p.place++;
                break;
            case END:
                p.state = FREE;
                break;
            case STOP:
                p.state = STOPPED;
                break;
            default:
                compute(p, op, k);
                p.place++;
                break;
        }
    }

    /** The instructions that change only registers and words. */
    private void compute(Proc p, int op, int k) {
        switch (op) {
            case PUT:
                p.put(k);
                break;
            case LOAD:
                p.put(p.word(k));
                break;
            case STORE:
                p.setWord(k, p.a);
                p.drop();
                break;
            case PLUS:
                p.replaceTwo(p.b + p.a);
                break;
            case MINUS:
                p.replaceTwo(p.b - p.a);
                break;
            case TIMES:
                p.replaceTwo(p.b * p.a);
                break;
            case GREATER:
                p.replaceTwo(p.b > p.a ? 1 : 0);
                break;
            case CLOCK:
                p.put(time);
                break;
            default:
                break;
        }
    }

    private void jump(Proc p, int k) {
        p.place = k;
        if (p.priority == LOW && p.done >= TURN) {
            becomeReady(p);
        }
    }

    private void jumpIfZero(Proc p, int k) {
        if (p.a == 0) {
            p.place = k;
        } else {
            p.drop();
            p.place++;
        }
    }

    private void awaitTime(Proc p) {
        int t = p.a;
        p.drop();
        p.place++;
        if (!hasCome(t)) {
            p.wakeTime = t;
            p.state = ASLEEP;
        }
    }

    private void send(Proc p, Channel c) {
        if (c == null || c.hasSender()) {
            p.state = STOPPED;
            return;
        }
        int x = p.a;
        p.drop();
        p.place++;
        Proc receiver = c.waiter;
        if (receiver == null) {
            c.hold(p, true, x);
            return;
        }
        c.clear();
        deliver(c.number, p, receiver, x);
        becomeReady(receiver);
    }

    private void receive(Proc p, Channel c) {
        if (c == null || c.hasReceiver()) {
            p.state = STOPPED;
            return;
        }
        p.place++;
        Proc sender = c.waiter;
        if (sender == null) {
            c.hold(p, false, 0);
            return;
        }
        int x = c.message;
        c.clear();
        deliver(c.number, sender, p, x);
        becomeReady(sender);
    }

    private void deliver(int channel, Proc sender, Proc receiver, int x) {
        receiver.put(x);
        log.append(channel, sender.number, receiver.number, x, time);
    }

    /** The instructions, in the order in which they were added. */
    private static final class Program {
        final int[] ops;
        final int[] operands;
        int size;

        Program() {
            ops = new int[PLACES];
            operands = new int[PLACES];
            size = 0;
        }

        /** Answers the place; the caller has seen that there is room. */
        int append(int op, int k) {
            int place = size;
            if (place < 0 || place >= PLACES) {
                return NONE;
            }
            ops[place] = op;
            operands[place] = k;
            size = place + 1;
            return place;
        }

        boolean holds(int place) {
            return place >= 0 && place < size && place < PLACES;
        }

        /** Behind the last instruction a STOP is done. */
        int opAt(int place) {
            return holds(place) ? ops[place] : STOP;
        }

        int operandAt(int place) {
            return holds(place) ? operands[place] : 0;
        }
    }

    /** What a process has of its own; all but number and state is void while it is free. */
    private static final class Proc {
        final int number;
        final int[] words;
        int state;
        int priority;
        int place;
        int a;
        int b;
        int c;
        int wakeTime;
        /** How many instructions it has done since it began to run last. */
        int done;

        Proc(int number) {
            this.number = number;
            words = new int[WORDS];
            state = FREE;
        }

        void begin(int firstPriority, int firstPlace, int firstA) {
            priority = firstPriority;
            place = firstPlace;
            a = firstA;
            b = 0;
            c = 0;
            for (int i = 0; i < WORDS; i++) {
                words[i] = 0;
            }
        }

        void put(int x) {
            c = b;
            b = a;
            a = x;
        }

        void drop() {
            a = b;
            b = c;
        }

        void replaceTwo(int x) {
            a = x;
            b = c;
        }

        int word(int k) {
            return k >= 0 && k < WORDS ? words[k] : 0;
        }

        void setWord(int k, int x) {
            if (k >= 0 && k < WORDS) {
                words[k] = x;
            }
        }

        long part(int what) {
            switch (what) {
                case 0:
                    return priority;
                case 1:
                    return place;
                case 2:
                    return a;
                case 3:
                    return b;
                case 4:
                    return c;
                case 5:
                case 6:
                case 7:
                case 8:
                    return word(what - 5);
                default:
                    return NOTHING;
            }
        }
    }

    /** The ready processes of one priority; it has room for all, and none stands in it twice. */
    private static final class Row {
        final Proc[] members;
        int size;

        Row() {
            members = new Proc[PROCESSES];
            size = 0;
        }

        void clear() {
            size = 0;
        }

        void putLast(Proc p) {
            if (size >= 0 && size < PROCESSES) {
                members[size] = p;
                size++;
            }
        }

        void putFirst(Proc p) {
            if (size < PROCESSES) {
                for (int i = size; i > 0; i--) {
                    members[i] = members[i - 1];
                }
                members[0] = p;
                size++;
            }
        }

        /** Answers null if the row is empty. */
        Proc takeFirst() {
            if (size <= 0) {
                return null;
            }
            Proc first = members[0];
            size--;
            for (int i = 0; i < size && i + 1 < PROCESSES; i++) {
                members[i] = members[i + 1];
            }
            return first;
        }

        int numberAt(int i) {
            boolean inside = i >= 0 && i < size && i < PROCESSES;
            return inside && members[i] != null ? members[i].number : NONE;
        }
    }

    /** A channel, with the process that waits at it, if there is one. */
    private static final class Channel {
        final int number;
        Proc waiter;
        boolean waiterSends;
        int message;

        Channel(int number) {
            this.number = number;
            waiter = null;
            waiterSends = false;
            message = 0;
        }

        void clear() {
            waiter = null;
            waiterSends = false;
            message = 0;
        }

        void hold(Proc p, boolean sends, int x) {
            waiter = p;
            waiterSends = sends;
            message = x;
            p.state = AT_CHANNEL;
        }

        boolean hasSender() {
            return waiter != null && waiterSends;
        }

        boolean hasReceiver() {
            return waiter != null && !waiterSends;
        }

        int code() {
            if (waiter == null) {
                return 0;
            }
            return (waiterSends ? SENDER : RECEIVER) + waiter.number;
        }
    }

    /** How many messages there were, and the parts of the last ones. */
    private static final class Log {
        final int[] parts;
        int count;

        Log() {
            parts = new int[REMEMBERED * PARTS];
            count = 0;
        }

        /** A new message takes the room of the one forgotten; the mask keeps any n inside the array. */
        static int roomOf(int n) {
            return (n & (REMEMBERED - 1)) * PARTS;
        }

        void append(int channel, int sender, int receiver, int x, int clock) {
            int room = roomOf(count);
            parts[room] = channel;
            parts[room + 1] = sender;
            parts[room + 2] = receiver;
            parts[room + 3] = x;
            parts[room + 4] = clock;
            count++;
        }

        long part(int n, int what) {
            if (n < 0 || n >= REMEMBERED || n >= count || what < 0 || what >= PARTS) {
                return NOTHING;
            }
            return parts[roomOf(count - 1 - n) + what];
        }
    }
}
