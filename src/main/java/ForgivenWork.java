import java.util.Arrays;

/** Work within work, where an inner failure may be forgiven. */
public final class ForgivenWork {
    public static final int NONE = -1;

    private static final int CELLS = 16;
    private static final int WORKERS = 3;
    private static final int MOST_WORKS = 5;
    private static final int MOST_POINTS = 4;
    private static final int MOST_REGRETS = 6;
    private static final int MOST_ENTRIES = 40;
    private static final int MOST_MERCY = 3;
    private static final int FIRST_MERCY = 1;
    private static final int VALUES = 100;

    private static final int MOST_TEXT = 120;
    private static final int MOST_CODE = 255;
    private static final int MOST_REMEMBERED = 14;
    private static final int SLOTS = 2;
    private static final int MOST_FAILURES = 5;
    private static final int MOST_STEPS = 99;
    private static final int MOST_COMMANDS = 3;
    private static final int GROUP = 100000;

    // The deeds of a worker; the first four stand in the order of the script's "k".
    private static final int BEGIN = 0;
    private static final int DONE = 1;
    private static final int FAIL = 2;
    private static final int POINT = 3;
    private static final int BACK = 4;
    private static final int REGRET = 5;
    private static final int WRITE = 6;

    // The numbers of a worker; those of all workers added up are numbers of the whole.
    private static final int ITS_WORKS = 0;
    private static final int ITS_ENTRIES = 1;
    private static final int ITS_LOCKS = 2;
    private static final int ITS_OVER_WELL = 3;
    private static final int ITS_OVER_BADLY = 4;
    private static final int ITS_SPOILED = 5;

    private static final int NO_WORK = 1;
    private static final int IS_SPOILED = 2;
    private static final int LOCKED_BY_OTHER = 3;
    private static final int LOG_IS_FULL = 4;

    private final Row text = new Row(MOST_TEXT, MOST_TEXT);
    private final State state = new State();
    private final State scratch = new State();
    private final History history = new History();
    private final State[] slots = new State[SLOTS];
    private final boolean[] isFilled = new boolean[SLOTS];

    public ForgivenWork() {
    }

    // ---- text

    public int append(int c) throws IllegalArgumentException, IllegalStateException {
        if (c < 0 || c > MOST_CODE) {
            throw new IllegalArgumentException("no such character code");
        }
        if (text.size >= MOST_TEXT) {
            throw new IllegalStateException("the text is full");
        }
        text.push(c);
        return text.size;
    }

    public int clearText() {
        int before = text.size;
        text.cutTo(0);
        return before;
    }

    public int errorPosition() {
        if (text.get(0) != 'W') {
            return 0;
        }
        int position = 1;
        while (position < text.size) {
            String shape = shapeOf(text.get(position));
            if (shape.isEmpty()) {
                return position;
            }
            position++;
            int fitting = countFitting(position, shape);
            position += fitting;
            if (fitting < shape.length()) {
                return position;
            }
        }
        return NONE;
    }

    public int load() throws IllegalStateException {
        if (errorPosition() != NONE) {
            throw new IllegalStateException("the text is not a story");
        }
        state.clear();
        history.forgetAll();
        emptySlots();
        int leftOut = 0;
        int position = 1;
        while (position < text.size) {
            if (!obeyText(position)) {
                leftOut++;
            }
            position += 1 + shapeOf(text.get(position)).length();
        }
        return leftOut;
    }

    // ---- what there is

    public int about(int what) throws IllegalArgumentException {
        switch (what) {
            case 0:
                return state.sumOfValues();
            case 1:
                return state.sumOfWorkers(ITS_LOCKS);
            case 2:
                return state.sumOfWorkers(ITS_WORKS);
            case 3:
                return state.sumOfWorkers(ITS_OVER_WELL);
            case 4:
                return state.sumOfWorkers(ITS_OVER_BADLY);
            case 5:
                return state.forgiven;
            case 6:
                // Only an innermost work can be spoiled: nothing begins within a spoiled one.
                return state.sumOfWorkers(ITS_SPOILED);
            case 7:
                return state.mercy;
            case 8:
                return state.writes;
            case 9:
                return state.regretsDone;
            default:
                throw new IllegalArgumentException("no such number");
        }
    }

    public int cell(int c, int what) throws IndexOutOfBoundsException, IllegalArgumentException {
        requireCell(c);
        switch (what) {
            case 0:
                return state.values.get(c);
            case 1:
                return state.locks.get(c);
            case 2:
                return state.oldestValue(c);
            default:
                throw new IllegalArgumentException("no such number of a cell");
        }
    }

    public int worker(int w, int what) throws IndexOutOfBoundsException, IllegalArgumentException {
        Worker who = existingWorker(w);
        if (what < ITS_WORKS || what > ITS_SPOILED) {
            throw new IllegalArgumentException("no such number of a worker");
        }
        return state.numberOfWorker(who, what);
    }

    public int work(int w, int i, int what) throws IndexOutOfBoundsException, IllegalArgumentException {
        Worker who = existingWorker(w);
        Work one = who.workAt(i);
        if (one == null) {
            throw new IndexOutOfBoundsException("no such work");
        }
        switch (what) {
            case 0:
                return one.logStart;
            case 1:
                return who.countPoints(i);
            case 2:
                return who.countRegrets(i);
            case 3:
                return one.forgiven;
            case 4:
                return one.spoiled ? 1 : 0;
            default:
                throw new IllegalArgumentException("no such number of a work");
        }
    }

    public int entry(int w, int k) throws IndexOutOfBoundsException, IllegalArgumentException {
        Worker who = existingWorker(w);
        if (k < 0) {
            throw new IllegalArgumentException("entries are counted from 0");
        }
        return k < who.log.size ? who.log.get(who.log.size - 1 - k) : NONE;
    }

    // ---- actions

    public int begin(int w) throws IndexOutOfBoundsException, IllegalStateException {
        return act(BEGIN, existingWorker(w), 0, 0);
    }

    public int write(int w, int c, int v)
            throws IndexOutOfBoundsException, IllegalArgumentException, IllegalStateException {
        Worker who = existingWorker(w);
        requireCell(c);
        if (!isValue(v)) {
            throw new IllegalArgumentException("no such value");
        }
        return act(WRITE, who, c, v);
    }

    public int point(int w) throws IndexOutOfBoundsException, IllegalStateException {
        return act(POINT, existingWorker(w), 0, 0);
    }

    public int back(int w, int i) throws IndexOutOfBoundsException, IllegalStateException {
        Worker who = existingWorker(w);
        requirePoint(who, i);
        return act(BACK, who, i, 0);
    }

    public int regret(int w, int c, int n)
            throws IndexOutOfBoundsException, IllegalArgumentException, IllegalStateException {
        Worker who = existingWorker(w);
        requireCell(c);
        if (!isRegretNumber(n)) {
            throw new IllegalArgumentException("no such number for a regret");
        }
        return act(REGRET, who, c, n);
    }

    public int done(int w) throws IndexOutOfBoundsException, IllegalStateException {
        return act(DONE, existingWorker(w), 0, 0);
    }

    public int fail(int w) throws IndexOutOfBoundsException, IllegalStateException {
        return act(FAIL, existingWorker(w), 0, 0);
    }

    public int setMercy(int mercy) throws IllegalArgumentException {
        if (mercy < 0 || mercy > MOST_MERCY) {
            throw new IllegalArgumentException("no such mercy");
        }
        history.remember(state);
        int before = state.mercy;
        state.mercy = mercy;
        return before;
    }

    public int undo() throws IllegalStateException {
        if (history.count == 0) {
            throw new IllegalStateException("no state is remembered");
        }
        history.takeBack(state);
        return history.count;
    }

    // ---- what would be

    public int whyNot(int w, int c) throws IndexOutOfBoundsException {
        Worker who = existingWorker(w);
        requireCell(c);
        return state.obstacle(who, c);
    }

    public int failed(int w, int c, int n) throws IndexOutOfBoundsException, IllegalArgumentException {
        existingWorker(w);
        requireCell(c);
        if (n < 0 || n > MOST_FAILURES) {
            throw new IllegalArgumentException("no such number of failures");
        }
        scratch.copyFrom(state);
        for (int k = 0; k < n; k++) {
            scratch.attempt(FAIL, w, 0, 0);
        }
        return scratch.values.get(c);
    }

    public int changes(int w) throws IndexOutOfBoundsException {
        existingWorker(w);
        scratch.copyFrom(state);
        return scratch.attempt(FAIL, w, 0, 0) ? state.countDifferent(scratch) : NONE;
    }

    public int lost(int w, int i) throws IndexOutOfBoundsException {
        requirePoint(existingWorker(w), i);
        scratch.copyFrom(state);
        Worker twin = scratch.workerAt(w);
        if (twin != null) {
            scratch.goBack(twin, i);
        }
        return state.countDifferent(scratch);
    }

    public int mercyLeft(int w) throws IndexOutOfBoundsException {
        Worker who = existingWorker(w);
        Work innermost = who.innermost();
        if (innermost == null || innermost.spoiled || who.depth >= MOST_WORKS) {
            return NONE;
        }
        // The mercy may have been lowered since; the next failure spoils the work all the same.
        return Math.max(0, state.mercy - innermost.forgiven) + 1;
    }

    // ---- scripts, simulations

    public int runScript(int n, long script) throws IllegalArgumentException {
        if (n < 1 || n > MOST_COMMANDS) {
            throw new IllegalArgumentException("no such number of commands");
        }
        if (script < 0 || dropGroups(script, n) != 0) {
            throw new IllegalArgumentException("no such script");
        }
        scratch.copyFrom(state);
        for (int i = 0; i < n; i++) {
            int group = (int) (dropGroups(script, n - 1 - i) % GROUP);
            if (!obeyGroup(group)) {
                return i;
            }
        }
        return NONE;
    }

    public int simulate(long seed, int m) throws IllegalArgumentException {
        if (m < 1 || m > MOST_STEPS) {
            throw new IllegalArgumentException("no such number of steps");
        }
        scratch.copyFrom(state);
        long x = seed;
        for (int step = 0; step < m; step++) {
            x = x * 6364136223846793005L + 1442695040888963407L;
            simulateStep((int) (x >>> 33));
        }
        return 1000 * (scratch.forgiven - state.forgiven) + (scratch.writes - state.writes);
    }

    // ---- save slots

    public int save(int slot) throws IndexOutOfBoundsException {
        requireSlot(slot);
        State kept = slots[slot];
        if (kept == null) {
            kept = new State();
            slots[slot] = kept;
        }
        kept.copyFrom(state);
        isFilled[slot] = true;
        return state.sumOfValues();
    }

    public int restore(int slot) throws IndexOutOfBoundsException, IllegalStateException {
        requireSlot(slot);
        State kept = slots[slot];
        if (kept == null || !isFilled[slot]) {
            throw new IllegalStateException("nothing has been saved in this slot");
        }
        state.copyFrom(kept);
        history.forgetAll();
        return state.sumOfValues();
    }

    // ---- what the arguments may be

    private static boolean isCell(int c) {
        return c >= 0 && c < CELLS;
    }

    private static boolean isValue(int v) {
        return v >= 0 && v < VALUES;
    }

    private static boolean isRegretNumber(int n) {
        return n >= 1 && n < VALUES;
    }

    private Worker existingWorker(int w) {
        Worker who = state.workerAt(w);
        if (who == null) {
            throw new IndexOutOfBoundsException("no such worker");
        }
        return who;
    }

    private static void requireCell(int c) {
        if (!isCell(c)) {
            throw new IndexOutOfBoundsException("no such cell");
        }
    }

    private static void requirePoint(Worker who, int i) {
        if (!who.hasPoint(i)) {
            throw new IndexOutOfBoundsException("no such point");
        }
    }

    private static void requireSlot(int slot) {
        if (slot < 0 || slot >= SLOTS) {
            throw new IndexOutOfBoundsException("no such save slot");
        }
    }

    // ---- how it is done

    private int act(int deed, Worker who, int a, int b) {
        if (!state.allows(deed, who, a, b)) {
            throw new IllegalStateException("not possible now");
        }
        history.remember(state);
        return state.perform(deed, who, a, b);
    }

    private void emptySlots() {
        for (int slot = 0; slot < isFilled.length; slot++) {
            isFilled[slot] = false;
        }
    }

    /**
     * What follows the letter of a command, a sign for each character: w a worker, i a point, m a mercy,
     * C and c the digits of a cell, D and d those of a value, D and n those of a regret's number.
     */
    private static String shapeOf(int letter) {
        switch (letter) {
            case 'b':
            case 'p':
            case 'd':
            case 'f':
                return "w";
            case 's':
                return "wCcDd";
            case 'g':
                return "wCcDn";
            case 'r':
                return "wi";
            case 'm':
                return "m";
            default:
                return "";
        }
    }

    private int countFitting(int start, String shape) {
        for (int k = 0; k < shape.length(); k++) {
            int position = start + k;
            if (position >= text.size || !fits(shape.charAt(k), position)) {
                return k;
            }
        }
        return shape.length();
    }

    private boolean fits(char sign, int position) {
        int digit = digitAt(position);
        if (digit < 0 || digit > 9) {
            return false;
        }
        switch (sign) {
            case 'w':
                return digit < WORKERS;
            case 'i':
                return digit < MOST_POINTS;
            case 'm':
                return digit <= MOST_MERCY;
            case 'C':
                return isCell(10 * digit);
            case 'c':
                return isCell(numberAt(position - 1));
            case 'n':
                return isRegretNumber(numberAt(position - 1));
            default:
                return true;
        }
    }

    private int digitAt(int position) {
        return text.get(position) - '0';
    }

    private int numberAt(int position) {
        return 10 * digitAt(position) + digitAt(position + 1);
    }

    /** The command at this position of a story; false if it would throw an exception. */
    private boolean obeyText(int position) {
        int first = digitAt(position + 1);
        int rest = position + 2;
        switch (text.get(position)) {
            case 'b':
                return state.attempt(BEGIN, first, 0, 0);
            case 's':
                return state.attempt(WRITE, first, numberAt(rest), numberAt(rest + 2));
            case 'p':
                return state.attempt(POINT, first, 0, 0);
            case 'r':
                return state.attempt(BACK, first, digitAt(rest), 0);
            case 'g':
                return state.attempt(REGRET, first, numberAt(rest), numberAt(rest + 2));
            case 'd':
                return state.attempt(DONE, first, 0, 0);
            case 'f':
                return state.attempt(FAIL, first, 0, 0);
            default:
                state.mercy = first;
                return true;
        }
    }

    private static long dropGroups(long script, int groups) {
        long rest = script;
        for (int k = 0; k < groups; k++) {
            rest /= GROUP;
        }
        return rest;
    }

    private boolean obeyGroup(int group) {
        int w = group / 1000 % 10;
        int cc = group / 10 % 100;
        int last = group % 10;
        switch (group / 10000) {
            case 1:
                return cc == 0 && last <= POINT && scratch.attempt(last, w, 0, 0);
            case 2:
                return scratch.attempt(WRITE, w, cc, last);
            case 3:
                return cc == 0 && scratch.attempt(BACK, w, last, 0);
            case 4:
                return scratch.attempt(REGRET, w, cc, last);
            case 5:
                return w == 0 && isCell(cc) && scratch.values.get(cc) == last;
            default:
                return isTrueOfWorker(group / 10000, w, cc, last);
        }
    }

    private boolean isTrueOfWorker(int question, int w, int cc, int last) {
        Worker who = scratch.workerAt(w);
        if (who == null) {
            return false;
        }
        switch (question) {
            case 6:
                return last == 0 && isCell(cc) && scratch.locks.get(cc) == w;
            case 7:
                return cc == 0 && who.depth == last;
            case 8:
                return cc == 0 && last == 0 && who.isSpoiled();
            case 9:
                return cc < 10 && who.log.size <= 10 * cc + last;
            default:
                return false;
        }
    }

    private void simulateStep(int r) {
        int w = r / 16 % WORKERS;
        int c = r / 64 % CELLS;
        switch (r % 16) {
            case 0:
            case 1:
            case 2:
                scratch.attempt(BEGIN, w, 0, 0);
                break;
            case 3:
            case 4:
                scratch.attempt(DONE, w, 0, 0);
                break;
            case 5:
            case 6:
                scratch.attempt(FAIL, w, 0, 0);
                break;
            case 7:
                scratch.attempt(POINT, w, 0, 0);
                break;
            case 8:
                scratch.attempt(BACK, w, r / 64 % 4, 0);
                break;
            case 9:
                scratch.attempt(REGRET, w, c, 1 + r / 1024 % 99);
                break;
            default:
                scratch.attempt(WRITE, w, c, r / 1024 % VALUES);
                break;
        }
    }

    /** A row of numbers that grows at its end; every index into an array of numbers is tested here. */
    private static final class Row {
        private final int most;
        private int[] items;
        private int size;

        Row(int capacity, int most) {
            this.items = new int[Math.max(1, capacity)];
            this.most = most;
        }

        int get(int i) {
            return i >= 0 && i < size && i < items.length ? items[i] : 0;
        }

        void set(int i, int number) {
            if (i >= 0 && i < size && i < items.length) {
                items[i] = number;
            }
        }

        void push(int number) {
            if (size < 0 || size >= most) {
                return;
            }
            if (size >= items.length) {
                items = Arrays.copyOf(items, Math.min(most, 2 * size + 1));
            }
            if (size < items.length) {
                items[size] = number;
                size++;
            }
        }

        void cutTo(int length) {
            if (length >= 0 && length < size) {
                size = length;
            }
        }

        void copyFrom(Row other) {
            if (other.size > items.length) {
                items = other.items.clone();
            } else if (other.size >= 0 && other.size <= other.items.length) {
                System.arraycopy(other.items, 0, items, 0, other.size);
            }
            size = other.size;
        }
    }

    private static final class Work {
        private int logStart;
        private int regretStart;
        private int pointStart;
        private int forgiven;
        private boolean spoiled;

        void copyFrom(Work other) {
            logStart = other.logStart;
            regretStart = other.regretStart;
            pointStart = other.pointStart;
            forgiven = other.forgiven;
            spoiled = other.spoiled;
        }
    }

    /**
     * A worker. The regrets and the points of all its works stand in one row each, those of the outermost
     * first: so the regrets of an inner work that is done are behind those of the work around it by themselves.
     */
    private static final class Worker {
        private static final int USUAL_REGRETS = 12;
        // An object lives for 512 calls, a story has at most 19 regrets and a simulation 99:
        // no log and no regrets can come up to this.
        private static final int MOST_KEPT = 1024;

        private final int number;
        private final Work[] works = new Work[MOST_WORKS];
        private final Row log = new Row(MOST_ENTRIES, MOST_KEPT);
        private final Row regrets = new Row(USUAL_REGRETS, MOST_KEPT);
        private final Row pointLogs = new Row(MOST_POINTS, MOST_WORKS * MOST_POINTS);
        private final Row pointRegrets = new Row(MOST_POINTS, MOST_WORKS * MOST_POINTS);
        private int depth;
        private int overWell;
        private int overBadly;

        Worker(int number) {
            this.number = number;
            for (int i = 0; i < works.length; i++) {
                works[i] = new Work();
            }
        }

        void clear() {
            depth = 0;
            log.cutTo(0);
            regrets.cutTo(0);
            cutPoints(0);
            overWell = 0;
            overBadly = 0;
        }

        void copyFrom(Worker other) {
            depth = other.depth;
            overWell = other.overWell;
            overBadly = other.overBadly;
            log.copyFrom(other.log);
            regrets.copyFrom(other.regrets);
            pointLogs.copyFrom(other.pointLogs);
            pointRegrets.copyFrom(other.pointRegrets);
            for (int i = 0; i < works.length; i++) {
                Work from = other.workAt(i);
                Work to = works[i];
                if (from != null && to != null) {
                    to.copyFrom(from);
                }
            }
        }

        Work workAt(int i) {
            return i >= 0 && i < depth && i < works.length ? works[i] : null;
        }

        Work innermost() {
            return depth > 0 && depth <= works.length ? works[depth - 1] : null;
        }

        boolean isSpoiled() {
            Work innermost = innermost();
            return innermost != null && innermost.spoiled;
        }

        boolean isReady() {
            return depth > 0 && !isSpoiled();
        }

        int countPoints(int i) {
            Work one = workAt(i);
            Work within = workAt(i + 1);
            int end = within == null ? pointLogs.size : within.pointStart;
            return one == null ? 0 : end - one.pointStart;
        }

        int countRegrets(int i) {
            Work one = workAt(i);
            Work within = workAt(i + 1);
            int end = within == null ? regrets.size : within.regretStart;
            return one == null ? 0 : end - one.regretStart;
        }

        boolean hasPoint(int i) {
            return i >= 0 && i < countPoints(depth - 1);
        }

        void cutPoints(int length) {
            pointLogs.cutTo(length);
            pointRegrets.cutTo(length);
        }

        int startWork() {
            if (depth >= 0 && depth < works.length) {
                Work fresh = works[depth];
                if (fresh != null) {
                    fresh.logStart = log.size;
                    fresh.regretStart = regrets.size;
                    fresh.pointStart = pointLogs.size;
                    fresh.forgiven = 0;
                    fresh.spoiled = false;
                    depth++;
                }
            }
            return depth;
        }

        int setPoint() {
            pointLogs.push(log.size);
            pointRegrets.push(regrets.size);
            return countPoints(depth - 1) - 1;
        }

        /** The innermost work is no more; what is left of its log and its regrets belongs to the work around it. */
        void leaveWork() {
            Work left = innermost();
            if (left != null) {
                cutPoints(left.pointStart);
                depth--;
            }
        }
    }

    private static final class State {
        private final Row values = new Row(CELLS, CELLS);
        private final Row locks = new Row(CELLS, CELLS);
        private final Worker[] workers = new Worker[WORKERS];
        private int mercy = FIRST_MERCY;
        private int forgiven;
        private int writes;
        private int regretsDone;

        State() {
            for (int c = 0; c < CELLS; c++) {
                values.push(0);
                locks.push(NONE);
            }
            for (int w = 0; w < workers.length; w++) {
                workers[w] = new Worker(w);
            }
        }

        void clear() {
            for (int c = 0; c < CELLS; c++) {
                values.set(c, 0);
                locks.set(c, NONE);
            }
            for (int w = 0; w < WORKERS; w++) {
                Worker who = workerAt(w);
                if (who != null) {
                    who.clear();
                }
            }
            mercy = FIRST_MERCY;
            forgiven = 0;
            writes = 0;
            regretsDone = 0;
        }

        void copyFrom(State other) {
            values.copyFrom(other.values);
            locks.copyFrom(other.locks);
            for (int w = 0; w < WORKERS; w++) {
                Worker to = workerAt(w);
                Worker from = other.workerAt(w);
                if (to != null && from != null) {
                    to.copyFrom(from);
                }
            }
            mercy = other.mercy;
            forgiven = other.forgiven;
            writes = other.writes;
            regretsDone = other.regretsDone;
        }

        Worker workerAt(int w) {
            return w >= 0 && w < workers.length ? workers[w] : null;
        }

        int sumOfValues() {
            int sum = 0;
            for (int c = 0; c < CELLS; c++) {
                sum += values.get(c);
            }
            return sum;
        }

        int countLockedBy(int w) {
            int count = 0;
            for (int c = 0; c < CELLS; c++) {
                if (locks.get(c) == w) {
                    count++;
                }
            }
            return count;
        }

        int numberOfWorker(Worker who, int what) {
            switch (what) {
                case ITS_WORKS:
                    return who.depth;
                case ITS_ENTRIES:
                    return who.log.size;
                case ITS_LOCKS:
                    return countLockedBy(who.number);
                case ITS_OVER_WELL:
                    return who.overWell;
                case ITS_OVER_BADLY:
                    return who.overBadly;
                case ITS_SPOILED:
                    return who.isSpoiled() ? 1 : 0;
                default:
                    return NONE;
            }
        }

        int sumOfWorkers(int what) {
            int sum = 0;
            for (int w = 0; w < WORKERS; w++) {
                Worker who = workerAt(w);
                if (who != null) {
                    sum += numberOfWorker(who, what);
                }
            }
            return sum;
        }

        int countDifferent(State other) {
            int count = 0;
            for (int c = 0; c < CELLS; c++) {
                if (values.get(c) != other.values.get(c)) {
                    count++;
                }
            }
            return count;
        }

        int oldestValue(int c) {
            Worker owner = workerAt(locks.get(c));
            if (owner == null) {
                return values.get(c);
            }
            for (int k = 0; k < owner.log.size; k++) {
                int logged = owner.log.get(k);
                if (logged / VALUES == c) {
                    return logged % VALUES;
                }
            }
            return values.get(c);
        }

        int obstacle(Worker who, int c) {
            if (who.depth == 0) {
                return NO_WORK;
            }
            if (who.isSpoiled()) {
                return IS_SPOILED;
            }
            int owner = locks.get(c);
            if (owner != NONE && owner != who.number) {
                return LOCKED_BY_OTHER;
            }
            return who.log.size >= MOST_ENTRIES ? LOG_IS_FULL : 0;
        }

        boolean allows(int deed, Worker who, int a, int b) {
            switch (deed) {
                case BEGIN:
                    return who.depth < MOST_WORKS && !who.isSpoiled();
                case DONE:
                    return who.isReady();
                case FAIL:
                    return who.depth > 0;
                case POINT:
                    return who.isReady() && who.countPoints(who.depth - 1) < MOST_POINTS;
                case BACK:
                    return who.isReady() && who.hasPoint(a);
                case REGRET:
                    return isCell(a) && isRegretNumber(b) && canRegret(who, a);
                case WRITE:
                    return isCell(a) && isValue(b) && obstacle(who, a) == 0;
                default:
                    return false;
            }
        }

        boolean canRegret(Worker who, int c) {
            int why = obstacle(who, c);
            return (why == 0 || why == LOG_IS_FULL) && who.countRegrets(who.depth - 1) < MOST_REGRETS;
        }

        /** Does what allows() has allowed. */
        int perform(int deed, Worker who, int a, int b) {
            switch (deed) {
                case BEGIN:
                    return who.startWork();
                case DONE:
                    return endWell(who);
                case FAIL:
                    return endBadly(who);
                case POINT:
                    return who.setPoint();
                case BACK:
                    return goBack(who, a);
                case REGRET:
                    return takeRegret(who, a, b);
                case WRITE:
                    return setValue(who, a, b);
                default:
                    return NONE;
            }
        }

        boolean attempt(int deed, int w, int a, int b) {
            Worker who = workerAt(w);
            if (who == null || !allows(deed, who, a, b)) {
                return false;
            }
            perform(deed, who, a, b);
            return true;
        }

        int setValue(Worker who, int c, int v) {
            int before = values.get(c);
            locks.set(c, who.number);
            who.log.push(VALUES * c + before);
            values.set(c, v);
            writes++;
            return before;
        }

        int takeRegret(Worker who, int c, int n) {
            locks.set(c, who.number);
            who.regrets.push(VALUES * c + n);
            return who.countRegrets(who.depth - 1);
        }

        int goBack(Worker who, int i) {
            Work innermost = who.innermost();
            if (innermost == null || !who.hasPoint(i)) {
                return 0;
            }
            int point = innermost.pointStart + i;
            int before = who.log.size;
            rollBack(who, who.pointLogs.get(point));
            who.regrets.cutTo(who.pointRegrets.get(point));
            who.cutPoints(point + 1);
            return before - who.log.size;
        }

        void rollBack(Worker who, int mark) {
            for (int k = who.log.size - 1; k >= mark; k--) {
                int logged = who.log.get(k);
                values.set(logged / VALUES, logged % VALUES);
            }
            who.log.cutTo(mark);
        }

        int endWell(Worker who) {
            who.leaveWork();
            if (who.depth == 0) {
                endAll(who);
                who.overWell++;
            }
            return who.depth;
        }

        int endBadly(Worker who) {
            Work lost = who.innermost();
            if (lost == null) {
                return NONE;
            }
            rollBack(who, lost.logStart);
            doRegrets(who, lost.regretStart);
            who.leaveWork();
            Work around = who.innermost();
            if (around == null) {
                endAll(who);
                who.overBadly++;
                return 0;
            }
            return forgiveOrSpoil(around);
        }

        void doRegrets(Worker who, int mark) {
            for (int k = who.regrets.size - 1; k >= mark; k--) {
                int regretted = who.regrets.get(k);
                int c = regretted / VALUES;
                int before = values.get(c);
                if (who.depth > 1) {
                    who.log.push(VALUES * c + before);
                }
                values.set(c, (before + regretted % VALUES) % VALUES);
                regretsDone++;
            }
            who.regrets.cutTo(mark);
        }

        int forgiveOrSpoil(Work around) {
            if (around.forgiven < mercy) {
                around.forgiven++;
                forgiven++;
                return 1;
            }
            around.spoiled = true;
            return 2;
        }

        /** The outermost work has been left: its points are gone with it, and now all the rest. */
        void endAll(Worker who) {
            who.log.cutTo(0);
            who.regrets.cutTo(0);
            for (int c = 0; c < CELLS; c++) {
                if (locks.get(c) == who.number) {
                    locks.set(c, NONE);
                }
            }
        }
    }

    /** The remembered states, in a ring: when it is full, the newest one takes the place of the oldest. */
    private static final class History {
        private final State[] kept = new State[MOST_REMEMBERED];
        private int next;
        private int count;

        void remember(State state) {
            if (next < 0 || next >= kept.length) {
                return;
            }
            State place = kept[next];
            if (place == null) {
                place = new State();
                kept[next] = place;
            }
            place.copyFrom(state);
            next = (next + 1) % MOST_REMEMBERED;
            count = Math.min(MOST_REMEMBERED, count + 1);
        }

        void takeBack(State state) {
            int last = (next + MOST_REMEMBERED - 1) % MOST_REMEMBERED;
            State place = last >= 0 && last < kept.length ? kept[last] : null;
            if (place == null || count == 0) {
                return;
            }
            state.copyFrom(place);
            next = last;
            count--;
        }

        void forgetAll() {
            count = 0;
        }
    }
}
