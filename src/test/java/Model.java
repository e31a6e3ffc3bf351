import java.util.ArrayDeque;
import java.util.ArrayList;
import java.util.Arrays;
import java.util.Deque;
import java.util.List;
import java.util.regex.Pattern;

/**
 * The document once more, written another way than the class: every action works on a copy of the state, marks are
 * objects, and the text is matched by a regular expression.
 */
final class Model {
    private record Mark(int origin, int hops) {
        Mark next() {
            return new Mark(origin, Math.min(99, hops + 1));
        }
    }

    private record Cell(int value, Mark mark) {
        static final Cell EMPTY = new Cell(0, null);

        Cell copied() {
            return new Cell(value, mark == null ? null : mark.next());
        }

        boolean isPoisoned() {
            return mark != null;
        }
    }

    private record Logged(int task, int register, int origin, int mode) {
    }

    private static final class State {
        Cell[] words = new Cell[32];
        Cell[] seconds = new Cell[32];
        Cell[][] registers = new Cell[4][4];
        int[] modes = new int[4];
        boolean[] stopped = new boolean[4];
        List<Integer> sources = new ArrayList<>();
        List<Logged> log = new ArrayList<>();
        int healed;

        State copy() {
            State copy = new State();
            copy.words = words.clone();
            copy.seconds = seconds.clone();
            for (int task = 0; task < 4; task++) {
                copy.registers[task] = registers[task].clone();
            }
            copy.modes = modes.clone();
            copy.stopped = stopped.clone();
            copy.sources.addAll(sources);
            copy.log.addAll(log);
            copy.healed = healed;
            return copy;
        }
    }

    private static final String OPERATION = "(?:[LS][0-3]{2},(?:[12]?[0-9]|3[01])|M[0-3]{3}|A[0-3]{5}|O[0-3]{2}"
        + "|I(?:[12]?[0-9]|3[01])|V[0-3]{2}=(?:0|[1-9][0-9]{0,3}|[1-5][0-9]{4}|6[0-4][0-9]{3}|65[0-4][0-9]{2}"
        + "|655[0-2][0-9]|6553[0-5]))";
    private static final Pattern TEXT = Pattern.compile(OPERATION + "(?:;" + OPERATION + ")*");
    private static final String[] ENDINGS = {
        "", "0", "00", "000", "0000", "00000", ",0", "0,0", "00,0", "=0", "0=0", "00=0", "I0"
    };

    private State now = new State();
    private final Deque<State> history = new ArrayDeque<>();
    private String text = "";

    Model() {
        for (int word = 0; word < 32; word++) {
            now.words[word] = Cell.EMPTY;
        }
        for (Cell[] row : now.registers) {
            Arrays.fill(row, Cell.EMPTY);
        }
    }

    /** The answer of a method of the face; a boolean argument stands as 0 or 1. */
    double call(String name, int[] a) {
        switch (name) {
            case "append":
                return append(a[0]);
            case "clearText":
                int length = text.length();
                text = "";
                return length;
            case "fault":
                return faultOfText();
            case "undo":
                if (history.isEmpty()) {
                    return Check.NONE;
                }
                now = history.pop();
                return history.size();
            case "stopsAt":
                return stopsAt();
            case "poisonedIfScrubbed":
                State scrubbed = now.copy();
                for (int page = 0; page < 8; page++) {
                    scrub(scrubbed, page);
                }
                return countPoisoned(scrubbed, 0, 32);
            case "bestScrub":
                return bestScrub();
            default:
                return isAction(name) ? act(name, a) : ask(name, a);
        }
    }

    private static boolean isAction(String name) {
        return List.of("inject", "copyBlock", "fill", "setMirror", "scrub", "setMode", "restart", "setRegister", "load",
            "loadByte", "store", "storeByte", "move", "compute", "loadAt", "output", "run").contains(name);
    }

    private int act(String name, int[] a) {
        State after = now.copy();
        int answer = name.equals("run") ? run(after) : apply(after, name, a);
        if (answer >= 0 || answer < -5) {
            history.push(now);
            if (history.size() > 4) {
                history.removeLast();
            }
            now = after;
        }
        return answer;
    }

    // ---- the text

    private int append(int character) {
        if (character < 32 || character > 126) {
            return Check.BAD_VALUE;
        }
        if (text.length() == 90) {
            return Check.TOO_MANY;
        }
        text += (char) character;
        return text.length();
    }

    private int faultOfText() {
        for (int end = 1; end <= text.length(); end++) {
            if (!canBegin(text.substring(0, end))) {
                return end - 1;
            }
        }
        return TEXT.matcher(text).matches() ? Check.NONE : text.length();
    }

    private static boolean canBegin(String start) {
        for (String ending : ENDINGS) {
            if (TEXT.matcher(start + ending).matches()) {
                return true;
            }
        }
        return false;
    }

    private int run(State s) {
        if (faultOfText() != Check.NONE) {
            return Check.BAD_TEXT;
        }
        int done = 0;
        for (String operation : text.split(";")) {
            int answer = applyOperation(s, operation);
            if (answer < 0 && answer >= -5) {
                break;
            }
            done++;
        }
        return done;
    }

    private int stopsAt() {
        if (faultOfText() != Check.NONE) {
            return Check.BAD_TEXT;
        }
        State s = now.copy();
        String[] operations = text.split(";");
        for (int i = 0; i < operations.length; i++) {
            boolean[] before = s.stopped.clone();
            int answer = applyOperation(s, operations[i]);
            if (answer < 0 && answer >= -5) {
                return Check.NONE;
            }
            if (!Arrays.equals(before, s.stopped)) {
                return i;
            }
        }
        return Check.NONE;
    }

    private static int applyOperation(State s, String operation) {
        String rest = operation.substring(1);
        String digits = rest.split("[,=]")[0];
        String number = rest.contains(",") || rest.contains("=") ? rest.split("[,=]")[1] : "0";
        int[] d = digits.chars().map(c -> c - '0').toArray();
        int n = Integer.parseInt(number);
        switch (operation.charAt(0)) {
            case 'L':
                return apply(s, "load", new int[] {d[0], d[1], n});
            case 'S':
                return apply(s, "store", new int[] {d[0], d[1], n});
            case 'V':
                return apply(s, "setRegister", new int[] {d[0], d[1], n});
            case 'M':
                return apply(s, "move", d);
            case 'A':
                return apply(s, "compute", d);
            case 'O':
                return apply(s, "output", d);
            default:
                return apply(s, "inject", new int[] {Integer.parseInt(digits)});
        }
    }

    // ---- the actions

    private static boolean out(int x, int least, int most) {
        return x < least || x > most;
    }

    private static int apply(State s, String name, int[] a) {
        switch (name) {
            case "inject":
                if (out(a[0], 0, 31)) {
                    return Check.NO_SUCH;
                }
                if (s.sources.size() == 20) {
                    return Check.TOO_MANY;
                }
                s.words[a[0]] = new Cell(s.words[a[0]].value, new Mark(s.sources.size(), 0));
                s.sources.add(a[0]);
                return s.sources.size() - 1;
            case "copyBlock":
                return copyBlock(s, a[0], a[1], a[2]);
            case "fill":
                return fill(s, a[0], a[1], a[2]);
            case "setMirror":
                if (out(a[0], 0, 7)) {
                    return Check.NO_SUCH;
                }
                for (int word = 4 * a[0]; word < 4 * a[0] + 4; word++) {
                    s.seconds[word] = a[1] == 1 ? s.words[word] : null;
                }
                int mirrored = 0;
                for (int page = 0; page < 8; page++) {
                    mirrored += s.seconds[4 * page] == null ? 0 : 1;
                }
                return mirrored;
            case "scrub":
                return out(a[0], 0, 7) ? Check.NO_SUCH : scrub(s, a[0]);
            case "setMode":
                if (out(a[0], 0, 3)) {
                    return Check.NO_SUCH;
                }
                if (out(a[1], 0, 2)) {
                    return Check.BAD_VALUE;
                }
                int previous = s.modes[a[0]];
                s.modes[a[0]] = a[1];
                return previous;
            case "restart":
                if (out(a[0], 0, 3)) {
                    return Check.NO_SUCH;
                }
                int poisoned = 0;
                for (int register = 0; register < 4; register++) {
                    poisoned += s.registers[a[0]][register].isPoisoned() ? 1 : 0;
                    s.registers[a[0]][register] = Cell.EMPTY;
                }
                s.stopped[a[0]] = false;
                return poisoned;
            default:
                return operate(s, name, a);
        }
    }

    /** The operations of tasks: their errors first, by where the arguments of each kind stand. */
    private static int operate(State s, String name, int[] a) {
        String kinds = switch (name) {
            case "setRegister" -> "trv";
            case "load", "store" -> "trw";
            case "loadByte", "storeByte" -> "trwp";
            case "move", "loadAt" -> "trr";
            case "compute" -> "torrr";
            default -> "tr";
        };
        int error = 0;
        for (int i = 0; i < kinds.length(); i++) {
            char kind = kinds.charAt(i);
            int most = kind == 'w' ? 31 : kind == 'v' ? 65535 : kind == 'p' ? 1 : 3;
            if (out(a[i], 0, most)) {
                boolean isOther = "vpo".indexOf(kind) >= 0;
                error = isOther && error != Check.NO_SUCH ? Check.BAD_VALUE : Check.NO_SUCH;
            }
        }
        if (error != 0) {
            return error;
        }
        return s.stopped[a[0]] ? Check.NOT_POSSIBLE : operateRightly(s, name, a);
    }

    private static int operateRightly(State s, String name, int[] a) {
        Cell[] r = s.registers[a[0]];
        switch (name) {
            case "setRegister":
                int previous = r[a[1]].value;
                r[a[1]] = new Cell(a[2], null);
                return previous;
            case "load":
                r[a[1]] = fetch(s, a[2]).copied();
                return r[a[1]].value;
            case "loadByte":
                Cell fetched = fetch(s, a[2]).copied();
                r[a[1]] = new Cell(a[3] == 0 ? fetched.value % 256 : fetched.value / 256, fetched.mark);
                return r[a[1]].value;
            case "store":
                write(s, a[2], r[a[1]].copied());
                return s.words[a[2]].isPoisoned() ? 1 : 0;
            case "storeByte":
                Cell old = fetch(s, a[2]);
                int low = r[a[1]].value % 256;
                int value = a[3] == 0 ? old.value / 256 * 256 + low : low * 256 + old.value % 256;
                write(s, a[2], new Cell(value, r[a[1]].isPoisoned() ? r[a[1]].copied().mark : old.mark));
                return s.words[a[2]].isPoisoned() ? 1 : 0;
            case "move":
                r[a[1]] = r[a[2]].copied();
                return r[a[1]].value;
            case "compute":
                boolean isUse = a[1] != 2 || a[3] != a[4];
                if (isUse && use(s, a[0], a[3], a[4])) {
                    return Check.FAULT;
                }
                long x = r[a[3]].value;
                long y = r[a[4]].value;
                long[] results = {x + y, x - y, x ^ y, x * y};
                r[a[2]] = new Cell((int) Math.floorMod(results[a[1]], 65536L), null);
                return r[a[2]].value;
            case "loadAt":
                if (use(s, a[0], a[2], a[2])) {
                    return Check.FAULT;
                }
                return operateRightly(s, "load", new int[] {a[0], a[1], r[a[2]].value % 32});
            default:
                return use(s, a[0], a[1], a[1]) ? Check.FAULT : r[a[1]].value;
        }
    }

    /** Whether the operation is not done. */
    private static boolean use(State s, int task, int... used) {
        for (int register : used) {
            Cell cell = s.registers[task][register];
            if (cell.isPoisoned()) {
                s.log.add(0, new Logged(task, register, cell.mark.origin, s.modes[task]));
                if (s.modes[task] == 2) {
                    for (int each : used) {
                        if (s.registers[task][each].isPoisoned()) {
                            s.registers[task][each] = Cell.EMPTY;
                        }
                    }
                    return false;
                }
                s.stopped[task] |= s.modes[task] == 0;
                return true;
            }
        }
        return false;
    }

    private static int copyBlock(State s, int from, int to, int words) {
        if (out(from, 0, 31) || out(to, 0, 31)) {
            return Check.NO_SUCH;
        }
        if (out(words, 1, 16)) {
            return Check.BAD_VALUE;
        }
        if (Math.max(from, to) + words > 32) {
            return Check.NO_SUCH;
        }
        List<Cell> read = new ArrayList<>();
        for (int i = 0; i < words; i++) {
            read.add(fetch(s, from + i));
        }
        for (int i = 0; i < words; i++) {
            write(s, to + i, read.get(i).copied());
        }
        return countPoisoned(s, to, to + words);
    }

    private static int fill(State s, int word, int words, int value) {
        if (out(word, 0, 31)) {
            return Check.NO_SUCH;
        }
        if (out(words, 1, 16) || out(value, 0, 65535)) {
            return Check.BAD_VALUE;
        }
        if (word + words > 32) {
            return Check.NO_SUCH;
        }
        int poisoned = countPoisoned(s, word, word + words);
        for (int i = 0; i < words; i++) {
            write(s, word + i, new Cell(value, null));
        }
        return poisoned;
    }

    private static Cell fetch(State s, int word) {
        Cell second = s.seconds[word];
        if (s.words[word].isPoisoned() && second != null && !second.isPoisoned()) {
            s.words[word] = second;
            s.healed++;
        }
        return s.words[word];
    }

    private static void write(State s, int word, Cell cell) {
        s.words[word] = cell;
        if (s.seconds[word] != null) {
            s.seconds[word] = cell;
        }
    }

    private static int scrub(State s, int page) {
        int before = s.healed;
        for (int word = 4 * page; word < 4 * page + 4; word++) {
            fetch(s, word);
        }
        return s.healed - before;
    }

    private static int countPoisoned(State s, int start, int end) {
        int count = 0;
        for (int word = start; word < end; word++) {
            count += s.words[word].isPoisoned() ? 1 : 0;
        }
        return count;
    }

    // ---- the questions

    private int bestScrub() {
        int best = Check.NONE;
        int most = 0;
        for (int page = 0; page < 8; page++) {
            int count = scrub(now.copy(), page);
            if (count > most) {
                most = count;
                best = page;
            }
        }
        return best;
    }

    private List<Mark> marks() {
        List<Mark> marks = new ArrayList<>();
        for (Cell cell : now.words) {
            marks.add(cell.mark);
        }
        for (Cell[] row : now.registers) {
            for (Cell cell : row) {
                marks.add(cell.mark);
            }
        }
        marks.removeIf(mark -> mark == null);
        return marks;
    }

    private int carriers(int origin) {
        return (int) marks().stream().filter(mark -> mark.origin == origin).count();
    }

    private double ask(String name, int[] a) {
        switch (name) {
            case "injections":
                return now.sources.size();
            case "faults":
                return now.log.size();
            case "healed":
                return now.healed;
            case "poisonShare":
                return countPoisoned(now, 0, 32) / 32.0;
            case "widest":
                int best = Check.NONE;
                for (int origin = now.sources.size() - 1; origin >= 0; origin--) {
                    if (carriers(origin) > 0 && carriers(origin) >= carriers(best)) {
                        best = origin;
                    }
                }
                return best;
            case "atRisk":
                int mask = 0;
                for (int task = 0; task < 4; task++) {
                    boolean isPoisoned = false;
                    for (Cell cell : now.registers[task]) {
                        isPoisoned |= cell.isPoisoned();
                    }
                    mask += isPoisoned && !now.stopped[task] ? 1 << task : 0;
                }
                return mask;
            case "log":
                return askLog(a[0], a[1]);
            case "mode":
                return out(a[0], 0, 3) ? Check.NO_SUCH : now.modes[a[0]];
            case "stopped":
                return out(a[0], 0, 3) ? Check.NO_SUCH : now.stopped[a[0]] ? 1 : 0;
            case "poisoned":
                return out(a[0], 0, 7) ? Check.NO_SUCH : countPoisoned(now, 4 * a[0], 4 * a[0] + 4);
            case "source", "carriers", "farthest", "carriersWithout":
                return out(a[0], 0, now.sources.size() - 1) ? Check.NO_SUCH : askOrigin(name, a);
            case "register", "registerOrigin", "registerHops":
                boolean isNone = out(a[0], 0, 3) || out(a[1], 0, 3);
                return isNone ? Check.NO_SUCH : askCell(name.substring(8), now.registers[a[0]][a[1]]);
            default:
                return out(a[0], 0, 31) ? Check.NO_SUCH : askWord(name, a[0]);
        }
    }

    private int askLog(int ago, int part) {
        if (ago < 0 || out(part, 0, 3)) {
            return Check.BAD_VALUE;
        }
        if (ago >= Math.min(8, now.log.size())) {
            return Check.NONE;
        }
        Logged logged = now.log.get(ago);
        return new int[] {logged.task, logged.register, logged.origin, logged.mode}[part];
    }

    private int askOrigin(String name, int[] a) {
        switch (name) {
            case "source":
                return now.sources.get(a[0]);
            case "carriers":
                return carriers(a[0]);
            case "farthest":
                return marks().stream().filter(mark -> mark.origin == a[0]).mapToInt(Mark::hops).max().orElse(Check.NONE);
            default:
                if (out(a[1], 0, 31)) {
                    return Check.NO_SUCH;
                }
                State kept = now;
                now = now.copy();
                now.words[a[1]] = new Cell(now.words[a[1]].value, null);
                int count = carriers(a[0]);
                now = kept;
                return count;
        }
    }

    private int askWord(String name, int word) {
        if (name.startsWith("mirror")) {
            return now.seconds[word] == null ? Check.NONE : askCell(name.substring(6), now.seconds[word]);
        }
        return askCell(name, now.words[word]);
    }

    private static int askCell(String what, Cell cell) {
        switch (what) {
            case "Origin", "origin":
                return cell.isPoisoned() ? cell.mark.origin : Check.NONE;
            case "Hops", "hops":
                return cell.isPoisoned() ? cell.mark.hops : Check.NONE;
            default:
                return cell.value;
        }
    }
}
