import java.util.Arrays;

/**
 * A memory whose poisoned words carry a mark that travels with every copy until a task uses them.
 *
 * <p>What the history records is one State; text and history stand beside it, because undo must
 * leave the text alone.
 */
public final class PoisonedMemory {
    public static final int NO_SUCH = -1;
    public static final int BAD_VALUE = -2;
    public static final int BAD_TEXT = -3;
    public static final int TOO_MANY = -4;
    public static final int NOT_POSSIBLE = -5;
    public static final int NONE = -6;
    public static final int FAULT = -7;

    private static final int WORDS = 32;
    private static final int PAGES = 8;
    private static final int PAGE_WORDS = 4;
    private static final int TASKS = 4;
    private static final int REGISTERS = 4;
    private static final int PARTS = 2;
    private static final int MAX_VALUE = 65535;
    private static final int MAX_HOPS = 99;
    private static final int MAX_BLOCK = 16;
    private static final int MAX_INJECTIONS = 20;
    private static final int MAX_TEXT = 90;
    private static final int MAX_LOG = 8;
    private static final int LOG_PARTS = 4;
    private static final int MAX_HISTORY = 4;

    private static final int MODES = 3;
    private static final int MODE_STOP = 0;
    private static final int MODE_ZERO = 2;

    private static final int OPERATORS = 4;
    private static final int OPERATOR_SUM = 0;
    private static final int OPERATOR_DIFFERENCE = 1;
    private static final int OPERATOR_XOR = 2;

    private static final int FIRST_CHARACTER = 32;
    private static final int LAST_CHARACTER = 126;

    private final State state;
    private final State trial;
    private final History history;
    private final Text text;
    private final Cells block;

    public PoisonedMemory() {
        state = new State();
        trial = new State();
        history = new History();
        text = new Text();
        block = new Cells(MAX_BLOCK);
    }

    // ---- memory (actions)

    public int inject(int word) {
        history.hold(state);
        return history.settle(state.injectWord(word));
    }

    public int copyBlock(int from, int to, int words) {
        history.hold(state);
        return history.settle(state.copyWords(from, to, words, block));
    }

    public int fill(int word, int words, int value) {
        history.hold(state);
        return history.settle(state.fillWords(word, words, value));
    }

    public int setMirror(int page, boolean isMirrored) {
        history.hold(state);
        return history.settle(state.mirrorPage(page, isMirrored));
    }

    public int scrub(int page) {
        history.hold(state);
        return history.settle(state.scrubPage(page));
    }

    // ---- tasks (actions)

    public int setMode(int task, int mode) {
        history.hold(state);
        return history.settle(state.changeMode(task, mode));
    }

    public int restart(int task) {
        history.hold(state);
        return history.settle(state.restartTask(task));
    }

    // ---- operations of tasks (actions)

    public int setRegister(int task, int register, int value) {
        history.hold(state);
        return history.settle(state.giveRegister(task, register, value));
    }

    public int load(int task, int register, int word) {
        history.hold(state);
        return history.settle(state.loadWord(task, register, word));
    }

    public int loadByte(int task, int register, int word, int part) {
        history.hold(state);
        return history.settle(state.loadPart(task, register, word, part));
    }

    public int store(int task, int register, int word) {
        history.hold(state);
        return history.settle(state.storeWord(task, register, word));
    }

    public int storeByte(int task, int register, int word, int part) {
        history.hold(state);
        return history.settle(state.storePart(task, register, word, part));
    }

    public int move(int task, int target, int source) {
        history.hold(state);
        return history.settle(state.moveRegister(task, target, source));
    }

    public int compute(int task, int operator, int target, int first, int second) {
        history.hold(state);
        return history.settle(state.computeRegister(task, operator, target, first, second));
    }

    public int loadAt(int task, int target, int address) {
        history.hold(state);
        return history.settle(state.loadAddressed(task, target, address));
    }

    public int output(int task, int register) {
        history.hold(state);
        return history.settle(state.outputRegister(task, register));
    }

    // ---- text and history

    public int append(int character) {
        if (character < FIRST_CHARACTER || character > LAST_CHARACTER) {
            return BAD_VALUE;
        }
        return text.add((char) character);
    }

    public int clearText() {
        return text.empty();
    }

    public int fault() {
        return text.findFault();
    }

    public int run() {
        if (text.findFault() != NONE) {
            return BAD_TEXT;
        }
        history.hold(state);
        int done = 0;
        text.rewind();
        while (done < MAX_TEXT && text.readNext() && !isError(perform(state))) {
            done++;
        }
        return history.settle(done);
    }

    public int undo() {
        return history.restore(state);
    }

    // ---- what there is

    public int value(int word) {
        return isWord(word) ? state.words.values[word] : NO_SUCH;
    }

    public int origin(int word) {
        return isWord(word) ? state.words.origins[word] : NO_SUCH;
    }

    public int hops(int word) {
        return isWord(word) ? state.words.hops[word] : NO_SUCH;
    }

    public int mirrorValue(int word) {
        if (!isWord(word)) {
            return NO_SUCH;
        }
        return state.hasSecond(word) ? state.seconds.values[word] : NONE;
    }

    public int mirrorOrigin(int word) {
        if (!isWord(word)) {
            return NO_SUCH;
        }
        return state.hasSecond(word) ? state.seconds.origins[word] : NONE;
    }

    public int register(int task, int register) {
        if (!isTask(task) || !isRegister(register)) {
            return NO_SUCH;
        }
        return state.registers.values[cellOf(task, register)];
    }

    public int registerOrigin(int task, int register) {
        if (!isTask(task) || !isRegister(register)) {
            return NO_SUCH;
        }
        return state.registers.origins[cellOf(task, register)];
    }

    public int registerHops(int task, int register) {
        if (!isTask(task) || !isRegister(register)) {
            return NO_SUCH;
        }
        return state.registers.hops[cellOf(task, register)];
    }

    public int mode(int task) {
        return isTask(task) ? state.modes[task] : NO_SUCH;
    }

    public int stopped(int task) {
        if (!isTask(task)) {
            return NO_SUCH;
        }
        return state.stopped[task] ? 1 : 0;
    }

    public int injections() {
        return state.injections;
    }

    public int source(int origin) {
        return state.isOrigin(origin) ? state.sources[origin] : NO_SUCH;
    }

    public int faults() {
        return state.faultLog.faults;
    }

    public int log(int ago, int part) {
        if (ago < 0 || part < 0 || part >= LOG_PARTS) {
            return BAD_VALUE;
        }
        return ago < state.faultLog.held ? state.faultLog.rows[ago * LOG_PARTS + part] : NONE;
    }

    public int healed() {
        return state.healed;
    }

    // ---- how far a poison has spread

    public int poisoned(int page) {
        if (!isPage(page)) {
            return NO_SUCH;
        }
        return state.words.countPoisoned(page * PAGE_WORDS, (page + 1) * PAGE_WORDS);
    }

    public int carriers(int origin) {
        return state.isOrigin(origin) ? state.countCarriers(origin) : NO_SUCH;
    }

    public int farthest(int origin) {
        if (!state.isOrigin(origin)) {
            return NO_SUCH;
        }
        return Math.max(state.words.mostHops(origin), state.registers.mostHops(origin));
    }

    public int widest() {
        int best = NONE;
        int most = 0;
        for (int origin = 0; origin < state.injections; origin++) {
            int count = state.countCarriers(origin);
            if (count > most) {
                best = origin;
                most = count;
            }
        }
        return best;
    }

    public int atRisk() {
        int mask = 0;
        for (int task = 0; task < TASKS; task++) {
            int poisonedRegisters = state.registers.countPoisoned(cellOf(task, 0), cellOf(task, REGISTERS));
            if (!state.stopped[task] && poisonedRegisters > 0) {
                mask |= 1 << task;
            }
        }
        return mask;
    }

    public float poisonShare() {
        return (float) state.words.countPoisoned(0, WORDS) / 32.0f;
    }

    // ---- what would be

    public int poisonedIfScrubbed() {
        return state.words.countPoisoned(0, WORDS) - state.countHealable(0, WORDS);
    }

    public int bestScrub() {
        int best = NONE;
        int most = 0;
        for (int page = 0; page < PAGES; page++) {
            int count = state.countHealable(page * PAGE_WORDS, (page + 1) * PAGE_WORDS);
            if (count > most) {
                best = page;
                most = count;
            }
        }
        return best;
    }

    public int carriersWithout(int origin, int word) {
        if (!state.isOrigin(origin) || !isWord(word)) {
            return NO_SUCH;
        }
        int own = state.words.origins[word] == origin ? 1 : 0;
        return state.countCarriers(origin) - own;
    }

    public int stopsAt() {
        if (text.findFault() != NONE) {
            return BAD_TEXT;
        }
        trial.become(state);
        int stoppedBefore = trial.countStopped();
        int index = 0;
        text.rewind();
        while (index < MAX_TEXT && text.readNext() && !isError(perform(trial))) {
            if (trial.countStopped() > stoppedBefore) {
                return index;
            }
            index++;
        }
        return NONE;
    }

    // ---- what several of them need

    private int perform(State subject) {
        int[] parts = text.parts;
        switch (text.kind) {
            case 'L':
                return subject.loadWord(parts[0], parts[1], parts[2]);
            case 'S':
                return subject.storeWord(parts[0], parts[1], parts[2]);
            case 'M':
                return subject.moveRegister(parts[0], parts[1], parts[2]);
            case 'A':
                return subject.computeRegister(parts[0], parts[1], parts[2], parts[3], parts[4]);
            case 'O':
                return subject.outputRegister(parts[0], parts[1]);
            case 'I':
                return subject.injectWord(parts[0]);
            default:
                return subject.giveRegister(parts[0], parts[1], parts[2]);
        }
    }

    private static boolean isError(int answer) {
        return answer < 0 && answer > NONE;
    }

    private static boolean isWord(int word) {
        return word >= 0 && word < WORDS;
    }

    private static boolean isPage(int page) {
        return page >= 0 && page < PAGES;
    }

    private static boolean isTask(int task) {
        return task >= 0 && task < TASKS;
    }

    private static boolean isRegister(int register) {
        return register >= 0 && register < REGISTERS;
    }

    private static boolean isPart(int part) {
        return part >= 0 && part < PARTS;
    }

    private static boolean isValue(int value) {
        return value >= 0 && value <= MAX_VALUE;
    }

    private static boolean isBlockLength(int words) {
        return words >= 1 && words <= MAX_BLOCK;
    }

    private static int cellOf(int task, int register) {
        return task * REGISTERS + register;
    }

    private static int byteOf(int value, int part) {
        return (value >> (8 * part)) & 255;
    }

    /** Values with their marks; a clean cell has NONE as its origin and as its hops. */
    private static final class Cells {
        private final int[] values;
        private final int[] origins;
        private final int[] hops;

        Cells(int size) {
            values = new int[size];
            origins = new int[size];
            hops = new int[size];
            Arrays.fill(origins, NONE);
            Arrays.fill(hops, NONE);
        }

        boolean isPoisoned(int cell) {
            return origins[cell] != NONE;
        }

        void setMark(int cell, int newOrigin, int newHops) {
            origins[cell] = newOrigin;
            hops[cell] = newHops;
        }

        void setClean(int cell, int newValue) {
            values[cell] = newValue;
            setMark(cell, NONE, NONE);
        }

        void setEqual(int cell, Cells other, int otherCell) {
            values[cell] = other.values[otherCell];
            setMark(cell, other.origins[otherCell], other.hops[otherCell]);
        }

        void copyMark(int cell, Cells other, int otherCell) {
            if (other.isPoisoned(otherCell)) {
                setMark(cell, other.origins[otherCell], Math.min(other.hops[otherCell] + 1, MAX_HOPS));
            } else {
                setMark(cell, NONE, NONE);
            }
        }

        void become(Cells other) {
            System.arraycopy(other.values, 0, values, 0, values.length);
            System.arraycopy(other.origins, 0, origins, 0, origins.length);
            System.arraycopy(other.hops, 0, hops, 0, hops.length);
        }

        int countPoisoned(int start, int end) {
            int count = 0;
            for (int cell = start; cell < end; cell++) {
                if (isPoisoned(cell)) {
                    count++;
                }
            }
            return count;
        }

        int countOrigin(int wanted) {
            int count = 0;
            for (int cell = 0; cell < origins.length; cell++) {
                if (origins[cell] == wanted) {
                    count++;
                }
            }
            return count;
        }

        /** NONE lies below every number of hops, so that it is the answer when no cell has the origin. */
        int mostHops(int wanted) {
            int most = NONE;
            for (int cell = 0; cell < origins.length; cell++) {
                if (origins[cell] == wanted) {
                    most = Math.max(most, hops[cell]);
                }
            }
            return most;
        }
    }

    /** The last faults, the latest in front. */
    private static final class FaultLog {
        private final int[] rows = new int[MAX_LOG * LOG_PARTS];
        private int held;
        private int faults;

        void add(int task, int register, int origin, int mode) {
            System.arraycopy(rows, 0, rows, LOG_PARTS, rows.length - LOG_PARTS);
            rows[0] = task;
            rows[1] = register;
            rows[2] = origin;
            rows[3] = mode;
            held = Math.min(held + 1, MAX_LOG);
            faults++;
        }

        void become(FaultLog other) {
            System.arraycopy(other.rows, 0, rows, 0, rows.length);
            held = other.held;
            faults = other.faults;
        }
    }

    /** All that undo restores, and the actions on it; an action that answers an error code has changed nothing. */
    private static final class State {
        private final Cells words = new Cells(WORDS);
        private final Cells seconds = new Cells(WORDS);
        private final Cells registers = new Cells(TASKS * REGISTERS);
        private final boolean[] mirrored = new boolean[PAGES];
        private final int[] modes = new int[TASKS];
        private final boolean[] stopped = new boolean[TASKS];
        private final int[] sources = new int[MAX_INJECTIONS];
        private final FaultLog faultLog = new FaultLog();
        private int injections;
        private int healed;

        void become(State other) {
            words.become(other.words);
            seconds.become(other.seconds);
            registers.become(other.registers);
            System.arraycopy(other.modes, 0, modes, 0, TASKS);
            System.arraycopy(other.sources, 0, sources, 0, MAX_INJECTIONS);
            copyFlags(other.mirrored, mirrored);
            copyFlags(other.stopped, stopped);
            faultLog.become(other.faultLog);
            injections = other.injections;
            healed = other.healed;
        }

        /** LANGUAGE.md names arrays of numbers alone for System.arraycopy. */
        private static void copyFlags(boolean[] from, boolean[] to) {
            for (int i = 0; i < from.length && i < to.length; i++) {
                to[i] = from[i];
            }
        }

        // -- memory

        int injectWord(int word) {
            if (!isWord(word)) {
                return NO_SUCH;
            }
            if (injections >= MAX_INJECTIONS) {
                return TOO_MANY;
            }
            int origin = injections;
            sources[origin] = word;
            injections++;
            words.setMark(word, origin, 0);
            return origin;
        }

        /** The target may overlap the source, so all is read into the block before anything is written. */
        int copyWords(int from, int to, int count, Cells block) {
            if (!isWord(from) || !isWord(to)) {
                return NO_SUCH;
            }
            if (!isBlockLength(count)) {
                return BAD_VALUE;
            }
            if (!isWord(from + count - 1) || !isWord(to + count - 1)) {
                return NO_SUCH;
            }
            for (int i = 0; i < count; i++) {
                fetch(from + i);
                block.setEqual(i, words, from + i);
            }
            for (int i = 0; i < count; i++) {
                putMarked(to + i, block.values[i], block, i);
            }
            return words.countPoisoned(to, to + count);
        }

        int fillWords(int word, int count, int value) {
            if (!isWord(word)) {
                return NO_SUCH;
            }
            if (!isBlockLength(count) || !isValue(value)) {
                return BAD_VALUE;
            }
            if (!isWord(word + count - 1)) {
                return NO_SUCH;
            }
            int poisonedBefore = words.countPoisoned(word, word + count);
            for (int i = 0; i < count; i++) {
                words.setClean(word + i, value);
                updateSecond(word + i);
            }
            return poisonedBefore;
        }

        int mirrorPage(int page, boolean isMirrored) {
            if (!isPage(page)) {
                return NO_SUCH;
            }
            mirrored[page] = isMirrored;
            for (int i = 0; i < PAGE_WORDS; i++) {
                updateSecond(page * PAGE_WORDS + i);
            }
            return countMirrored();
        }

        int scrubPage(int page) {
            if (!isPage(page)) {
                return NO_SUCH;
            }
            int healedBefore = healed;
            for (int i = 0; i < PAGE_WORDS; i++) {
                fetch(page * PAGE_WORDS + i);
            }
            return healed - healedBefore;
        }

        // -- tasks

        int changeMode(int task, int mode) {
            if (!isTask(task)) {
                return NO_SUCH;
            }
            if (mode < 0 || mode >= MODES) {
                return BAD_VALUE;
            }
            int previous = modes[task];
            modes[task] = mode;
            return previous;
        }

        int restartTask(int task) {
            if (!isTask(task)) {
                return NO_SUCH;
            }
            int poisonedBefore = registers.countPoisoned(cellOf(task, 0), cellOf(task, REGISTERS));
            for (int register = 0; register < REGISTERS; register++) {
                registers.setClean(cellOf(task, register), 0);
            }
            stopped[task] = false;
            return poisonedBefore;
        }

        // -- operations of tasks

        int giveRegister(int task, int register, int value) {
            if (!isTask(task) || !isRegister(register)) {
                return NO_SUCH;
            }
            if (!isValue(value)) {
                return BAD_VALUE;
            }
            if (stopped[task]) {
                return NOT_POSSIBLE;
            }
            int cell = cellOf(task, register);
            int previous = registers.values[cell];
            registers.setClean(cell, value);
            return previous;
        }

        int loadWord(int task, int register, int word) {
            if (!isTask(task) || !isRegister(register) || !isWord(word)) {
                return NO_SUCH;
            }
            if (stopped[task]) {
                return NOT_POSSIBLE;
            }
            return takeWord(cellOf(task, register), word);
        }

        int loadPart(int task, int register, int word, int part) {
            if (!isTask(task) || !isRegister(register) || !isWord(word)) {
                return NO_SUCH;
            }
            if (!isPart(part)) {
                return BAD_VALUE;
            }
            if (stopped[task]) {
                return NOT_POSSIBLE;
            }
            int cell = cellOf(task, register);
            int result = byteOf(takeWord(cell, word), part);
            registers.values[cell] = result;
            return result;
        }

        int storeWord(int task, int register, int word) {
            if (!isTask(task) || !isRegister(register) || !isWord(word)) {
                return NO_SUCH;
            }
            if (stopped[task]) {
                return NOT_POSSIBLE;
            }
            int cell = cellOf(task, register);
            putMarked(word, registers.values[cell], registers, cell);
            return words.isPoisoned(word) ? 1 : 0;
        }

        int storePart(int task, int register, int word, int part) {
            if (!isTask(task) || !isRegister(register) || !isWord(word)) {
                return NO_SUCH;
            }
            if (!isPart(part)) {
                return BAD_VALUE;
            }
            if (stopped[task]) {
                return NOT_POSSIBLE;
            }
            fetch(word);
            int cell = cellOf(task, register);
            int stored = byteOf(registers.values[cell], 0) << (8 * part);
            int kept = words.values[word] & (255 << (8 * (1 - part)));
            words.values[word] = kept | stored;
            if (registers.isPoisoned(cell)) {
                words.copyMark(word, registers, cell);
            }
            updateSecond(word);
            return words.isPoisoned(word) ? 1 : 0;
        }

        int moveRegister(int task, int target, int source) {
            if (!isTask(task) || !isRegister(target) || !isRegister(source)) {
                return NO_SUCH;
            }
            if (stopped[task]) {
                return NOT_POSSIBLE;
            }
            int targetCell = cellOf(task, target);
            int sourceCell = cellOf(task, source);
            registers.values[targetCell] = registers.values[sourceCell];
            registers.copyMark(targetCell, registers, sourceCell);
            return registers.values[targetCell];
        }

        int computeRegister(int task, int operator, int target, int first, int second) {
            if (!isTask(task) || !isRegister(target) || !isRegister(first) || !isRegister(second)) {
                return NO_SUCH;
            }
            if (operator < 0 || operator >= OPERATORS) {
                return BAD_VALUE;
            }
            if (stopped[task]) {
                return NOT_POSSIBLE;
            }
            boolean isUse = operator != OPERATOR_XOR || first != second;
            if (isUse && !mayUse(task, first, second)) {
                return FAULT;
            }
            int left = registers.values[cellOf(task, first)];
            int right = registers.values[cellOf(task, second)];
            int result = calculate(operator, left, right);
            registers.setClean(cellOf(task, target), result);
            return result;
        }

        int loadAddressed(int task, int target, int address) {
            if (!isTask(task) || !isRegister(target) || !isRegister(address)) {
                return NO_SUCH;
            }
            if (stopped[task]) {
                return NOT_POSSIBLE;
            }
            if (!mayUse(task, address, address)) {
                return FAULT;
            }
            int word = Math.floorMod(registers.values[cellOf(task, address)], WORDS);
            return takeWord(cellOf(task, target), word);
        }

        int outputRegister(int task, int register) {
            if (!isTask(task) || !isRegister(register)) {
                return NO_SUCH;
            }
            if (stopped[task]) {
                return NOT_POSSIBLE;
            }
            if (!mayUse(task, register, register)) {
                return FAULT;
            }
            return registers.values[cellOf(task, register)];
        }

        // -- what the actions share

        private int takeWord(int cell, int word) {
            fetch(word);
            registers.values[cell] = words.values[word];
            registers.copyMark(cell, words, word);
            return registers.values[cell];
        }

        private void putMarked(int word, int value, Cells source, int cell) {
            words.values[word] = value;
            words.copyMark(word, source, cell);
            updateSecond(word);
        }

        private void fetch(int word) {
            if (canHeal(word)) {
                words.setEqual(word, seconds, word);
                healed++;
            }
        }

        private void updateSecond(int word) {
            if (hasSecond(word)) {
                seconds.setEqual(word, words, word);
            }
        }

        private boolean hasSecond(int word) {
            return mirrored[word / PAGE_WORDS];
        }

        private boolean canHeal(int word) {
            return words.isPoisoned(word) && hasSecond(word) && !seconds.isPoisoned(word);
        }

        /** An operation has at most one fault, whatever number of its registers is poisoned. */
        private boolean mayUse(int task, int first, int second) {
            int culprit = registers.isPoisoned(cellOf(task, first)) ? first : second;
            int cell = cellOf(task, culprit);
            if (!registers.isPoisoned(cell)) {
                return true;
            }
            faultLog.add(task, culprit, registers.origins[cell], modes[task]);
            if (modes[task] == MODE_ZERO) {
                clearPoisoned(cellOf(task, first));
                clearPoisoned(cellOf(task, second));
                return true;
            }
            if (modes[task] == MODE_STOP) {
                stopped[task] = true;
            }
            return false;
        }

        private void clearPoisoned(int cell) {
            if (registers.isPoisoned(cell)) {
                registers.setClean(cell, 0);
            }
        }

        /** The mask takes the product right too: where int wraps around, the lower 16 bits stay as they are. */
        private static int calculate(int operator, int left, int right) {
            switch (operator) {
                case OPERATOR_SUM:
                    return (left + right) & MAX_VALUE;
                case OPERATOR_DIFFERENCE:
                    return (left - right) & MAX_VALUE;
                case OPERATOR_XOR:
                    return left ^ right;
                default:
                    return (left * right) & MAX_VALUE;
            }
        }

        // -- counts

        private boolean isOrigin(int origin) {
            return origin >= 0 && origin < injections;
        }

        private int countMirrored() {
            int count = 0;
            for (int page = 0; page < PAGES; page++) {
                if (mirrored[page]) {
                    count++;
                }
            }
            return count;
        }

        private int countStopped() {
            int count = 0;
            for (int task = 0; task < TASKS; task++) {
                if (stopped[task]) {
                    count++;
                }
            }
            return count;
        }

        private int countHealable(int start, int end) {
            int count = 0;
            for (int word = start; word < end; word++) {
                if (canHeal(word)) {
                    count++;
                }
            }
            return count;
        }

        private int countCarriers(int origin) {
            return words.countOrigin(origin) + registers.countOrigin(origin);
        }
    }

    /**
     * The states before the latest actions, in a ring with one place more than it remembers: an
     * action's state is held there before the action is known to answer no error code.
     */
    private static final class History {
        private static final int PLACES = MAX_HISTORY + 1;

        private final State[] places = new State[PLACES];
        private int oldest;
        private int count;

        History() {
            for (int i = 0; i < PLACES; i++) {
                places[i] = new State();
            }
        }

        void hold(State current) {
            places[(oldest + count) % PLACES].become(current);
        }

        int settle(int answer) {
            if (!isError(answer)) {
                keepHeld();
            }
            return answer;
        }

        private void keepHeld() {
            if (count < MAX_HISTORY) {
                count++;
            } else {
                oldest = (oldest + 1) % PLACES;
            }
        }

        int restore(State current) {
            if (count == 0) {
                return NONE;
            }
            count--;
            current.become(places[(oldest + count) % PLACES]);
            return count;
        }
    }

    /** The text, and a reader that stands at one of its operations. */
    private static final class Text {
        private static final int MAX_PARTS = 5;

        private final char[] characters = new char[MAX_TEXT];
        private int length;
        private int position;
        private int kind;
        private final int[] parts = new int[MAX_PARTS];
        private int partCount;

        int add(char character) {
            if (length >= MAX_TEXT) {
                return TOO_MANY;
            }
            characters[length] = character;
            length++;
            return length;
        }

        int empty() {
            int previous = length;
            length = 0;
            return previous;
        }

        void rewind() {
            position = 0;
        }

        /** Every reader below stops at the character that it can't take, so the position is the fault. */
        int findFault() {
            rewind();
            for (int i = 0; i < MAX_TEXT; i++) {
                if (!readOperation()) {
                    return position;
                }
                if (position >= length) {
                    return NONE;
                }
                if (!readSign(';')) {
                    return position;
                }
            }
            return position;
        }

        /** Reads on in a text that has no fault; false at its end. */
        boolean readNext() {
            if (position > 0 && !readSign(';')) {
                return false;
            }
            return readOperation();
        }

        private boolean readOperation() {
            kind = position < length ? characters[position] : 0;
            String shape = shapeOf(kind);
            if (shape.isEmpty()) {
                return false;
            }
            position++;
            partCount = 0;
            for (int i = 0; i < shape.length(); i++) {
                if (!readItem(shape.charAt(i))) {
                    return false;
                }
            }
            return true;
        }

        /** What follows the letter: d is a digit from 0 to 3, w a word, n a number, and a sign is itself. */
        private static String shapeOf(int letter) {
            switch (letter) {
                case 'L':
                case 'S':
                    return "dd,w";
                case 'M':
                    return "ddd";
                case 'A':
                    return "ddddd";
                case 'O':
                    return "dd";
                case 'I':
                    return "w";
                case 'V':
                    return "dd=n";
                default:
                    return "";
            }
        }

        private boolean readItem(char item) {
            switch (item) {
                case 'd':
                    return readDigit();
                case 'w':
                    return readNumber(WORDS - 1);
                case 'n':
                    return readNumber(MAX_VALUE);
                default:
                    return readSign(item);
            }
        }

        private boolean readSign(char sign) {
            if (position >= length || characters[position] != sign) {
                return false;
            }
            position++;
            return true;
        }

        /** Tasks, registers and operators are all four in number. */
        private boolean readDigit() {
            int digit = digitHere();
            if (digit < 0 || digit >= TASKS) {
                return false;
            }
            position++;
            addPart(digit);
            return true;
        }

        /** Takes as many digits as the number can have; one more is then no sign that may follow it. */
        private boolean readNumber(int greatest) {
            int digit = digitHere();
            if (digit < 0) {
                return false;
            }
            int number = digit;
            position++;
            for (int i = 0; i < MAX_TEXT; i++) {
                digit = digitHere();
                if (digit < 0 || number == 0 || number * 10 + digit > greatest) {
                    break;
                }
                number = number * 10 + digit;
                position++;
            }
            addPart(number);
            return true;
        }

        private int digitHere() {
            if (position >= length) {
                return NONE;
            }
            char character = characters[position];
            return character >= '0' && character <= '9' ? character - '0' : NONE;
        }

        private void addPart(int part) {
            if (partCount < MAX_PARTS) {
                parts[partCount] = part;
                partCount++;
            }
        }
    }
}
