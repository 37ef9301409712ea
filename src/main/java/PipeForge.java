import java.util.Arrays;

/** A small processor whose line of stages a text describes. The promises stand in DOC.md. */
public final class PipeForge {
    public static final int BAD = -1, NONE = -2;

    private static final int NOWHERE = -1;
    private static final int WHOLE = -1;
    private static final int REGISTERS = 8;
    private static final int PLACES = 64;
    private static final int LATENCIES = 8;
    private static final int MOST_LATENCY = 16;
    private static final int MOST_STAGES = 8;
    private static final int MOST_INSTRUCTIONS = 40;
    private static final int MOST_SIGNS = 30;
    private static final int MOST_CYCLES = 3000;
    private static final int KEPT_COMMITS = 1000;

    private static final int STOP = 0, NUMBER = 1, SUM = 2, DIFFERENCE = 3, PRODUCT = 4;
    private static final int LOAD = 5, STORE = 6, BRANCH = 7, OUT = 8, JUMP = 9;

    private static final String ORDER = "frxvqaw";
    private static final int R = 1, X = 2, V = 3, Q = 4, A = 5, W = 6, Y = 7, ACTIONS = 8;

    private final int[] signs = new int[MOST_SIGNS];
    private int signCount;
    private final LineReader reader = new LineReader();
    private final Layout layout = new Layout();
    private final Program program = new Program();
    private final Start start = new Start();
    private final CommitLog log = new CommitLog();
    private final Pipeline pipeline = new Pipeline(layout, program, start, log);
    private final OneByOne oneByOne = new OneByOne(program, start);

    public PipeForge() {
    }

    public boolean unit(int u) {
        if (u < 32 || u > 126 || signCount >= MOST_SIGNS) {
            return false;
        }
        signs[signCount] = u;
        signCount++;
        return true;
    }

    public int line() {
        int wrong = reader.firstWrong(signs, signCount);
        signCount = 0;
        if (wrong != WHOLE) {
            return -1 - wrong;
        }
        reader.writeTo(layout);
        pipeline.beginAnew();
        return layout.stageCount();
    }

    public int code(int kind, int d, int a, int b, int i) {
        if (kind < STOP || kind > JUMP || program.isFull()) {
            return BAD;
        }
        if (!isRegister(d) || !isRegister(a) || !isRegister(b)) {
            return BAD;
        }
        int which = program.add(new Instruction(kind, d, a, b, i));
        pipeline.beginAnew();
        return which;
    }

    public boolean memory(int place, int v) {
        if (!isPlace(place)) {
            return false;
        }
        start.tell(place, v);
        pipeline.beginAnew();
        return true;
    }

    public boolean latency(int k, int cycles) {
        if (k < 0 || k >= LATENCIES || cycles < 1 || cycles > MOST_LATENCY) {
            return false;
        }
        start.delay(k, cycles);
        pipeline.beginAnew();
        return true;
    }

    public int run(int cycles) {
        if (cycles < 1 || cycles > MOST_CYCLES) {
            return BAD;
        }
        pipeline.advance(cycles);
        return pipeline.reached();
    }

    public int cycle() {
        return pipeline.reached();
    }

    public boolean ended() {
        return pipeline.isEnded();
    }

    public int commits() {
        return log.total();
    }

    public int commit(int k, int what) {
        return log.part(k, what);
    }

    public int register(int k) {
        return isRegister(k) ? pipeline.holdings().inRegister(k) : BAD;
    }

    public int place(int k) {
        return isPlace(k) ? pipeline.holdings().atPlace(k) : BAD;
    }

    public int retired() {
        return pipeline.gone();
    }

    public boolean faithful() {
        return oneByOne.agreesWith(log);
    }

    public int told(int what) {
        switch (what) {
            case 0:
                return layout.stageCount();
            case 1:
                return program.size();
            case 2:
                return signCount;
            default:
                return what < 3 || what >= 3 + ACTIONS ? BAD : layout.stageOf(what - 3);
        }
    }

    private static boolean isRegister(int k) {
        return k >= 0 && k < REGISTERS;
    }

    private static boolean isPlace(int k) {
        return k >= 0 && k < PLACES;
    }

    /** How many stages the line has, and in which one each action stands. */
    private static final class Layout {
        private final int[] stages = {0, 0, 1, 1, 1, 2, 3, NOWHERE};
        private int count = 4;

        void become(int[] found, int stageCount) {
            System.arraycopy(found, 0, stages, 0, ACTIONS);
            count = stageCount;
        }

        int stageCount() {
            return count;
        }

        int stageOf(int action) {
            return action < 0 || action >= ACTIONS ? NOWHERE : stages[action];
        }

        boolean has(int action, int stage) {
            return stageOf(action) == stage;
        }

        /** The stage behind which others may read what a thread worked out, before its commit. */
        int givingStage(int kind) {
            int y = stages[Y];
            if (y == NOWHERE || kind != LOAD) {
                return y;
            }
            return Math.max(y, stages[A]);
        }
    }

    /** Reads a text sign by sign; it writes to a layout only on demand, so that a wrong text changes none. */
    private static final class LineReader {
        private final int[] found = new int[ACTIONS];
        private int next;
        private int stage;
        private boolean filled;

        int firstWrong(int[] text, int length) {
            Arrays.fill(found, NOWHERE);
            next = 0;
            stage = 0;
            filled = false;
            for (int k = 0; k < length && k < text.length; k++) {
                if (!takes(text[k])) {
                    return k;
                }
            }
            return next == ORDER.length() && filled ? WHOLE : length;
        }

        void writeTo(Layout layout) {
            layout.become(found, stage + 1);
        }

        private boolean takes(int sign) {
            if (sign == '/') {
                return takesBreak();
            }
            if (sign == 'y') {
                return next > X && next <= W && found[Y] == NOWHERE && puts(Y);
            }
            if (next >= ORDER.length() || sign != ORDER.charAt(next)) {
                return false;
            }
            if (next == A && found[Q] == stage) {
                return false;
            }
            next++;
            return puts(next - 1);
        }

        private boolean puts(int action) {
            found[action] = stage;
            filled = true;
            return true;
        }

        private boolean takesBreak() {
            if (!filled || stage + 1 >= MOST_STAGES) {
                return false;
            }
            stage++;
            filled = false;
            return true;
        }
    }

    /** One instruction, and what its kind means. */
    private static final class Instruction {
        private final int kind;
        /** The register that it commits, or NOWHERE: known once, since each thread behind asks for it. */
        private final int target;
        private final int a;
        private final int b;
        private final int i;

        Instruction(int kind, int d, int a, int b, int i) {
            this.kind = kind;
            this.target = kind >= NUMBER && kind <= LOAD ? d : NOWHERE;
            this.a = a;
            this.b = b;
            this.i = i;
        }

        int kind() {
            return kind;
        }

        int left() {
            return a;
        }

        int right() {
            return b;
        }

        int goal() {
            return i;
        }

        boolean readsLeft() {
            return kind >= SUM && kind <= OUT;
        }

        boolean readsRight() {
            return readsLeft() && kind != LOAD && kind != OUT;
        }

        boolean commitsRegister() {
            return target != NOWHERE;
        }

        boolean commitsTo(int register) {
            return target == register;
        }

        boolean commitsAnything() {
            return commitsRegister() || kind == STORE || kind == OUT;
        }

        /** The kind of its commit, as commit(k, 0) tells it. */
        int commitKind() {
            if (kind == STORE) {
                return 1;
            }
            return kind == OUT ? 2 : 0;
        }

        /** Which register or place its commit goes to, when its A holds this value. */
        int commitsWhere(int leftValue) {
            if (kind == STORE) {
                return placeFrom(leftValue);
            }
            return kind == OUT ? 0 : target;
        }

        /** The remainder is never below 0, also for a negative sum. */
        int placeFrom(int leftValue) {
            return Math.floorMod(leftValue + i, PLACES);
        }

        /** What it commits, but for a load, which has it from the memory. */
        int workedOut(int leftValue, int rightValue) {
            switch (kind) {
                case NUMBER:
                    return i;
                case SUM:
                    return leftValue + rightValue;
                case DIFFERENCE:
                    return leftValue - rightValue;
                case PRODUCT:
                    return leftValue * rightValue;
                case STORE:
                    return rightValue;
                case OUT:
                    return leftValue;
                default:
                    return 0;
            }
        }

        boolean goesOn(int leftValue, int rightValue) {
            return kind == JUMP || kind == BRANCH && leftValue == rightValue;
        }
    }

    /** The instructions; every number beside them is a stop. */
    private static final class Program {
        private final Instruction[] rows = new Instruction[MOST_INSTRUCTIONS];
        private final Instruction stop = new Instruction(STOP, 0, 0, 0, 0);
        private int count;

        Program() {
            for (int k = 0; k < MOST_INSTRUCTIONS; k++) {
                rows[k] = stop;
            }
        }

        boolean isFull() {
            return count >= MOST_INSTRUCTIONS;
        }

        int add(Instruction row) {
            if (isFull()) {
                return BAD;
            }
            rows[count] = row;
            count++;
            return count - 1;
        }

        int size() {
            return count;
        }

        Instruction at(int number) {
            return number < 0 || number >= count ? stop : rows[number];
        }
    }

    /** What was told about the memory: its values when the line begins, and how late it answers. */
    private static final class Start {
        private final int[] values = new int[PLACES];
        private final int[] delays = {1, 1, 1, 1, 1, 1, 1, 1};

        void tell(int place, int v) {
            if (isPlace(place)) {
                values[place] = v;
            }
        }

        void delay(int k, int cycles) {
            if (k >= 0 && k < LATENCIES) {
                delays[k] = cycles;
            }
        }

        int delayOf(int place) {
            return delays[Math.floorMod(place, LATENCIES)];
        }

        void fill(int[] places) {
            System.arraycopy(values, 0, places, 0, PLACES);
        }
    }

    /** Registers and memory, as commits made them. */
    private static final class Holdings {
        private final int[] registers = new int[REGISTERS];
        private final int[] places = new int[PLACES];

        void reset(Start start) {
            Arrays.fill(registers, 0);
            start.fill(places);
        }

        int inRegister(int k) {
            return isRegister(k) ? registers[k] : BAD;
        }

        int atPlace(int k) {
            return isPlace(k) ? places[k] : BAD;
        }

        void take(Instruction row, int where, int value) {
            if (row.commitsRegister() && isRegister(where)) {
                registers[where] = value;
            }
            if (row.kind() == STORE && isPlace(where)) {
                places[where] = value;
            }
        }
    }

    /** Counts all commits and keeps the first ones, in one row with four elements for each. */
    private static final class CommitLog {
        private static final int PARTS = 4;
        private final int[] parts = new int[KEPT_COMMITS * PARTS];
        private int kept;
        private int count;

        void clear() {
            kept = 0;
            count = 0;
        }

        void add(int kind, int where, int value, int cycle) {
            count++;
            if (kept >= KEPT_COMMITS) {
                return;
            }
            int from = kept * PARTS;
            parts[from] = kind;
            parts[from + 1] = where;
            parts[from + 2] = value;
            parts[from + 3] = cycle;
            kept++;
        }

        int total() {
            return count;
        }

        int size() {
            return kept;
        }

        int part(int k, int what) {
            if (k < 0 || k >= kept || what < 0 || what >= PARTS) {
                return NONE;
            }
            return parts[k * PARTS + what];
        }

        boolean holds(int k, int kind, int where, int value) {
            if (k < 0 || k >= kept) {
                return false;
            }
            int from = k * PARTS;
            return parts[from] == kind && parts[from + 1] == where && parts[from + 2] == value;
        }
    }

    /** One instruction on its way through the line. An unused one stands for a stage without a thread. */
    private static final class LineThread {
        private boolean present;
        private Instruction row;
        private int leftValue;
        private int rightValue;
        private int value;
        private int askedAt;
        private int gaveAt;

        LineThread(Instruction row) {
            this.row = row;
        }

        void come(Instruction newRow) {
            present = true;
            row = newRow;
            leftValue = 0;
            rightValue = 0;
            value = 0;
            askedAt = 0;
            gaveAt = 0;
        }

        void leave() {
            present = false;
        }

        boolean isPresent() {
            return present;
        }

        Instruction instruction() {
            return row;
        }

        void readLeft(int v) {
            leftValue = v;
        }

        void readRight(int v) {
            rightValue = v;
        }

        void workOut() {
            value = row.workedOut(leftValue, rightValue);
        }

        boolean goesOn() {
            return row.goesOn(leftValue, rightValue);
        }

        int asksPlace() {
            return row.placeFrom(leftValue);
        }

        void ask(int answer, int cycle) {
            value = answer;
            askedAt = cycle;
        }

        boolean isAnswered(int cycle, int delay) {
            return cycle - askedAt >= delay;
        }

        void give(int cycle) {
            gaveAt = cycle;
        }

        /** Cycles begin at 1, so 0 means that it has not given. */
        boolean gaveBefore(int cycle) {
            return gaveAt != 0 && gaveAt < cycle;
        }

        int worth() {
            return value;
        }

        int commitsWhere() {
            return row.commitsWhere(leftValue);
        }
    }

    /** The line itself: one thread for each stage, the older ones in the later stages. */
    private static final class Pipeline {
        private final Layout layout;
        private final Program program;
        private final Start start;
        private final CommitLog log;
        private final Holdings holdings = new Holdings();
        private final LineThread[] threads = new LineThread[MOST_STAGES];
        private final int[] committedAt = new int[REGISTERS];
        private int storedAt;
        private int nextNumber;
        private int cycle;
        private int wentThrough;
        private boolean stopped;

        Pipeline(Layout layout, Program program, Start start, CommitLog log) {
            this.layout = layout;
            this.program = program;
            this.start = start;
            this.log = log;
            for (int k = 0; k < MOST_STAGES; k++) {
                threads[k] = new LineThread(program.at(NOWHERE));
            }
        }

        void beginAnew() {
            throwOutBehind(MOST_STAGES);
            holdings.reset(start);
            log.clear();
            Arrays.fill(committedAt, 0);
            storedAt = 0;
            nextNumber = 0;
            cycle = 0;
            wentThrough = 0;
            stopped = false;
        }

        void advance(int cycles) {
            for (int k = 0; k < cycles && !stopped; k++) {
                step();
            }
        }

        int reached() {
            return cycle;
        }

        boolean isEnded() {
            return stopped;
        }

        int gone() {
            return wentThrough;
        }

        Holdings holdings() {
            return holdings;
        }

        private void step() {
            cycle++;
            if (!threads[0].isPresent()) {
                threads[0].come(program.at(nextNumber));
                nextNumber++;
            }
            for (int stage = layout.stageCount() - 1; stage >= 0; stage--) {
                if (threads[stage].isPresent() && mayFire(stage)) {
                    fire(stage);
                }
            }
        }

        private boolean isLast(int stage) {
            return stage + 1 >= layout.stageCount();
        }

        private boolean mayFire(int stage) {
            if (!isLast(stage) && threads[stage + 1].isPresent()) {
                return false;
            }
            LineThread thread = threads[stage];
            if (layout.has(R, stage) && !mayRead(stage, thread.instruction())) {
                return false;
            }
            if (thread.instruction().kind() != LOAD) {
                return true;
            }
            if (layout.has(Q, stage) && isStoreAhead(stage)) {
                return false;
            }
            return !layout.has(A, stage) || thread.isAnswered(cycle, start.delayOf(thread.asksPlace()));
        }

        private boolean mayRead(int stage, Instruction row) {
            if (row.readsLeft() && !isReady(stage, row.left())) {
                return false;
            }
            return !row.readsRight() || isReady(stage, row.right());
        }

        private boolean isReady(int stage, int register) {
            int writer = writerAhead(stage, register);
            if (writer != NOWHERE) {
                return threads[writer].gaveBefore(cycle);
            }
            return !isRegister(register) || committedAt[register] != cycle;
        }

        /** The stage of the youngest of the older threads that will commit this register. */
        private int writerAhead(int stage, int register) {
            for (int k = stage + 1; k < layout.stageCount(); k++) {
                if (threads[k].isPresent() && threads[k].instruction().commitsTo(register)) {
                    return k;
                }
            }
            return NOWHERE;
        }

        /** A store that left the line in this very cycle was in it when the cycle began, so it counts too. */
        private boolean isStoreAhead(int stage) {
            for (int k = stage + 1; k < layout.stageCount(); k++) {
                if (threads[k].isPresent() && threads[k].instruction().kind() == STORE) {
                    return true;
                }
            }
            return storedAt == cycle;
        }

        private void fire(int stage) {
            LineThread thread = threads[stage];
            Instruction row = thread.instruction();
            if (layout.has(R, stage)) {
                read(stage, thread);
            }
            if (layout.has(X, stage)) {
                thread.workOut();
            }
            if (layout.has(V, stage) && thread.goesOn()) {
                throwOutBehind(stage);
                nextNumber = row.goal();
            }
            if (layout.has(Q, stage) && row.kind() == LOAD) {
                thread.ask(holdings.atPlace(thread.asksPlace()), cycle);
            }
            if (layout.givingStage(row.kind()) == stage) {
                thread.give(cycle);
            }
            if (layout.has(W, stage)) {
                finish(thread);
            }
            moveOn(stage);
        }

        private void read(int stage, LineThread thread) {
            Instruction row = thread.instruction();
            if (row.readsLeft()) {
                thread.readLeft(valueFor(stage, row.left()));
            }
            if (row.readsRight()) {
                thread.readRight(valueFor(stage, row.right()));
            }
        }

        private int valueFor(int stage, int register) {
            int writer = writerAhead(stage, register);
            return writer == NOWHERE ? holdings.inRegister(register) : threads[writer].worth();
        }

        private void throwOutBehind(int stage) {
            for (int k = 0; k < stage && k < MOST_STAGES; k++) {
                threads[k].leave();
            }
        }

        private void finish(LineThread thread) {
            Instruction row = thread.instruction();
            if (row.kind() == STOP) {
                stopped = true;
            }
            if (!row.commitsAnything()) {
                return;
            }
            int where = thread.commitsWhere();
            holdings.take(row, where, thread.worth());
            log.add(row.commitKind(), where, thread.worth(), cycle);
            if (row.kind() == STORE) {
                storedAt = cycle;
            }
            if (row.commitsRegister() && isRegister(where)) {
                committedAt[where] = cycle;
            }
        }

        /** The two stages change their threads, so that none has to be made anew. */
        private void moveOn(int stage) {
            LineThread thread = threads[stage];
            if (isLast(stage)) {
                thread.leave();
                wentThrough++;
                return;
            }
            threads[stage] = threads[stage + 1];
            threads[stage + 1] = thread;
        }
    }

    /** What the program says: each instruction to its end before the next one begins. */
    private static final class OneByOne {
        /** Without a commit nothing changes but the number, so 40 steps without one mean that none comes any more. */
        private static final int MOST_STEPS = KEPT_COMMITS * (MOST_INSTRUCTIONS + 1);
        private final Program program;
        private final Start start;
        private final Holdings holdings = new Holdings();

        OneByOne(Program program, Start start) {
            this.program = program;
            this.start = start;
        }

        boolean agreesWith(CommitLog log) {
            holdings.reset(start);
            int number = 0;
            int agreed = 0;
            for (int step = 0; step < MOST_STEPS && agreed < log.size(); step++) {
                Instruction row = program.at(number);
                if (row.kind() == STOP) {
                    return false;
                }
                int left = holdings.inRegister(row.left());
                int right = holdings.inRegister(row.right());
                if (row.commitsAnything()) {
                    if (!commitsAs(log, agreed, row, left, right)) {
                        return false;
                    }
                    agreed++;
                }
                number = row.goesOn(left, right) ? row.goal() : number + 1;
            }
            return agreed == log.size();
        }

        private boolean commitsAs(CommitLog log, int k, Instruction row, int left, int right) {
            int where = row.commitsWhere(left);
            int value = row.kind() == LOAD ? holdings.atPlace(row.placeFrom(left)) : row.workedOut(left, right);
            holdings.take(row, where, value);
            return log.holds(k, row.commitKind(), where, value);
        }
    }
}
