import java.util.function.Consumer;
import java.util.function.ToIntFunction;

/** The sentences of "Errors". */
final class BoundaryErrors extends Boundary {
    BoundaryErrors(Sentences document) {
        super(document);
    }

    @Override
    void all() {
        section("Errors");
        says("A method that returns an error code changes nothing.", x -> {
            refusedMemory();
            refusedTasks();
            refusedOperations();
            refusedTexts();
            refusedQuestions();
        });
        says("The error codes of a method are listed in the order in which they are checked, and the first one that applies is "
            + "returned.", x -> {
            orderOfMemory();
            orderOfTasks();
            orderOfStoppedTasks();
            orderOfTexts();
        });
        says("NONE and FAULT are not error codes.", this::noneAndFault);
        constants();
        groups();
    }

    /**
     * Full of all that a call could change: task 0 is stopped, task 1 has a poisoned register and word 4 could be healed,
     * there were 20 injections, the history has four states, and the text has 90 characters and a fault.
     */
    private static void prepare(PoisonedMemory x) {
        x.fill(4, 8, 700);
        x.setMirror(1, true);
        x.setMode(1, ZERO);
        Check.stop(x, 0);
        for (int i = 2; i <= 18; i++) {
            x.inject(8 + i);
        }
        poisonRegister(x, 1, 1, 9);
        x.inject(4);
        x.setRegister(1, 2, 4);
        for (int i = 0; i < 30; i++) {
            x.append('I');
            x.append('0');
            x.append(';');
        }
    }

    private void refused(String call, int code, ToIntFunction<PoisonedMemory> action) {
        PoisonedMemory x = new PoisonedMemory();
        prepare(x);
        due(call, action.applyAsInt(x), code);
        Consumer<PoisonedMemory> silent = y -> action.applyAsInt(y);
        due(call + " leaves all", leavesAll(BoundaryErrors::prepare, silent), 1);
    }

    private void refusedMemory() {
        refused("inject(32)", NO_SUCH, x -> x.inject(32));
        refused("inject(-1)", NO_SUCH, x -> x.inject(-1));
        refused("inject(5)", TOO_MANY, x -> x.inject(5));
        refused("copyBlock(32, 5, 1)", NO_SUCH, x -> x.copyBlock(32, 5, 1));
        refused("copyBlock(4, 32, 1)", NO_SUCH, x -> x.copyBlock(4, 32, 1));
        refused("copyBlock(4, 5, 0)", BAD_VALUE, x -> x.copyBlock(4, 5, 0));
        refused("copyBlock(4, 5, 17)", BAD_VALUE, x -> x.copyBlock(4, 5, 17));
        refused("copyBlock(4, 30, 3)", NO_SUCH, x -> x.copyBlock(4, 30, 3));
        refused("copyBlock(30, 4, 3)", NO_SUCH, x -> x.copyBlock(30, 4, 3));
        refused("fill(32, 1, 5)", NO_SUCH, x -> x.fill(32, 1, 5));
        refused("fill(4, 0, 5)", BAD_VALUE, x -> x.fill(4, 0, 5));
        refused("fill(4, 17, 5)", BAD_VALUE, x -> x.fill(4, 17, 5));
        refused("fill(4, 1, 65536)", BAD_VALUE, x -> x.fill(4, 1, 65536));
        refused("fill(4, 1, -1)", BAD_VALUE, x -> x.fill(4, 1, -1));
        refused("fill(31, 2, 5)", NO_SUCH, x -> x.fill(31, 2, 5));
        refused("setMirror(8, true)", NO_SUCH, x -> x.setMirror(8, true));
        refused("setMirror(-1, false)", NO_SUCH, x -> x.setMirror(-1, false));
        refused("scrub(8)", NO_SUCH, x -> x.scrub(8));
        refused("scrub(-1)", NO_SUCH, x -> x.scrub(-1));
    }

    private void refusedTasks() {
        refused("setMode(4, 1)", NO_SUCH, x -> x.setMode(4, 1));
        refused("setMode(0, 3)", BAD_VALUE, x -> x.setMode(0, 3));
        refused("setMode(0, -1)", BAD_VALUE, x -> x.setMode(0, -1));
        refused("restart(4)", NO_SUCH, x -> x.restart(4));
        refused("restart(-1)", NO_SUCH, x -> x.restart(-1));
        refused("setRegister(4, 1, 5)", NO_SUCH, x -> x.setRegister(4, 1, 5));
        refused("setRegister(1, 4, 5)", NO_SUCH, x -> x.setRegister(1, 4, 5));
        refused("setRegister(1, 1, 65536)", BAD_VALUE, x -> x.setRegister(1, 1, 65536));
        refused("setRegister(1, 1, -1)", BAD_VALUE, x -> x.setRegister(1, 1, -1));
        refused("setRegister(0, 1, 5)", NOT_POSSIBLE, x -> x.setRegister(0, 1, 5));
        refused("load(4, 1, 4)", NO_SUCH, x -> x.load(4, 1, 4));
        refused("load(1, 4, 4)", NO_SUCH, x -> x.load(1, 4, 4));
        refused("load(1, 1, 32)", NO_SUCH, x -> x.load(1, 1, 32));
        refused("load(0, 1, 4)", NOT_POSSIBLE, x -> x.load(0, 1, 4));
        refused("loadByte(4, 1, 4, 0)", NO_SUCH, x -> x.loadByte(4, 1, 4, 0));
        refused("loadByte(1, 4, 4, 0)", NO_SUCH, x -> x.loadByte(1, 4, 4, 0));
        refused("loadByte(1, 1, 32, 0)", NO_SUCH, x -> x.loadByte(1, 1, 32, 0));
        refused("loadByte(1, 1, 4, 2)", BAD_VALUE, x -> x.loadByte(1, 1, 4, 2));
        refused("loadByte(1, 1, 4, -1)", BAD_VALUE, x -> x.loadByte(1, 1, 4, -1));
        refused("loadByte(0, 1, 4, 1)", NOT_POSSIBLE, x -> x.loadByte(0, 1, 4, 1));
    }

    private void refusedOperations() {
        refused("store(4, 1, 4)", NO_SUCH, x -> x.store(4, 1, 4));
        refused("store(1, 4, 4)", NO_SUCH, x -> x.store(1, 4, 4));
        refused("store(1, 1, 32)", NO_SUCH, x -> x.store(1, 1, 32));
        refused("store(0, 0, 4)", NOT_POSSIBLE, x -> x.store(0, 0, 4));
        refused("storeByte(4, 1, 4, 0)", NO_SUCH, x -> x.storeByte(4, 1, 4, 0));
        refused("storeByte(1, 4, 4, 0)", NO_SUCH, x -> x.storeByte(1, 4, 4, 0));
        refused("storeByte(1, 1, 32, 0)", NO_SUCH, x -> x.storeByte(1, 1, 32, 0));
        refused("storeByte(1, 2, 4, 2)", BAD_VALUE, x -> x.storeByte(1, 2, 4, 2));
        refused("storeByte(1, 2, 4, -1)", BAD_VALUE, x -> x.storeByte(1, 2, 4, -1));
        refused("storeByte(0, 0, 4, 1)", NOT_POSSIBLE, x -> x.storeByte(0, 0, 4, 1));
        refused("move(4, 1, 2)", NO_SUCH, x -> x.move(4, 1, 2));
        refused("move(1, 4, 2)", NO_SUCH, x -> x.move(1, 4, 2));
        refused("move(1, 1, 4)", NO_SUCH, x -> x.move(1, 1, 4));
        refused("move(0, 1, 0)", NOT_POSSIBLE, x -> x.move(0, 1, 0));
        refused("compute(4, 0, 0, 1, 1)", NO_SUCH, x -> x.compute(4, 0, 0, 1, 1));
        refused("compute(1, 0, 4, 1, 1)", NO_SUCH, x -> x.compute(1, 0, 4, 1, 1));
        refused("compute(1, 0, 0, 4, 1)", NO_SUCH, x -> x.compute(1, 0, 0, 4, 1));
        refused("compute(1, 0, 0, 1, 4)", NO_SUCH, x -> x.compute(1, 0, 0, 1, 4));
        refused("compute(1, 4, 0, 1, 1)", BAD_VALUE, x -> x.compute(1, 4, 0, 1, 1));
        refused("compute(1, -1, 0, 1, 1)", BAD_VALUE, x -> x.compute(1, -1, 0, 1, 1));
        refused("compute(0, 0, 1, 0, 0)", NOT_POSSIBLE, x -> x.compute(0, 0, 1, 0, 0));
        refused("compute(0, 2, 0, 0, 0)", NOT_POSSIBLE, x -> x.compute(0, 2, 0, 0, 0));
        refused("loadAt(4, 0, 2)", NO_SUCH, x -> x.loadAt(4, 0, 2));
        refused("loadAt(1, 4, 2)", NO_SUCH, x -> x.loadAt(1, 4, 2));
        refused("loadAt(1, 0, 4)", NO_SUCH, x -> x.loadAt(1, 0, 4));
        refused("loadAt(0, 1, 0)", NOT_POSSIBLE, x -> x.loadAt(0, 1, 0));
        refused("output(4, 1)", NO_SUCH, x -> x.output(4, 1));
        refused("output(1, 4)", NO_SUCH, x -> x.output(1, 4));
        refused("output(0, 0)", NOT_POSSIBLE, x -> x.output(0, 0));
    }

    private void refusedTexts() {
        refused("append(31)", BAD_VALUE, x -> x.append(31));
        refused("append(127)", BAD_VALUE, x -> x.append(127));
        refused("append('0')", TOO_MANY, x -> x.append('0'));
        refused("run()", BAD_TEXT, PoisonedMemory::run);
        refused("stopsAt()", BAD_TEXT, PoisonedMemory::stopsAt);
    }

    private void refusedQuestions() {
        refused("value(32)", NO_SUCH, x -> x.value(32));
        refused("origin(32)", NO_SUCH, x -> x.origin(32));
        refused("hops(32)", NO_SUCH, x -> x.hops(32));
        refused("mirrorValue(32)", NO_SUCH, x -> x.mirrorValue(32));
        refused("mirrorOrigin(32)", NO_SUCH, x -> x.mirrorOrigin(32));
        refused("register(4, 0)", NO_SUCH, x -> x.register(4, 0));
        refused("registerOrigin(0, 4)", NO_SUCH, x -> x.registerOrigin(0, 4));
        refused("registerHops(-1, 0)", NO_SUCH, x -> x.registerHops(-1, 0));
        refused("mode(4)", NO_SUCH, x -> x.mode(4));
        refused("stopped(4)", NO_SUCH, x -> x.stopped(4));
        refused("source(20)", NO_SUCH, x -> x.source(20));
        refused("log(-1, 0)", BAD_VALUE, x -> x.log(-1, 0));
        refused("log(0, 4)", BAD_VALUE, x -> x.log(0, 4));
        refused("poisoned(8)", NO_SUCH, x -> x.poisoned(8));
        refused("carriers(20)", NO_SUCH, x -> x.carriers(20));
        refused("farthest(20)", NO_SUCH, x -> x.farthest(20));
        refused("carriersWithout(20, 4)", NO_SUCH, x -> x.carriersWithout(20, 4));
        refused("carriersWithout(0, 32)", NO_SUCH, x -> x.carriersWithout(0, 32));
    }

    private void orderOfMemory() {
        PoisonedMemory x = new PoisonedMemory();
        prepare(x);
        due("inject: NO_SUCH, TOO_MANY", x.inject(32), NO_SUCH);
        due("copyBlock: NO_SUCH (from), BAD_VALUE", x.copyBlock(32, 0, 0), NO_SUCH);
        due("copyBlock: NO_SUCH (to), BAD_VALUE", x.copyBlock(0, -1, 17), NO_SUCH);
        due("copyBlock: BAD_VALUE, NO_SUCH (last source)", x.copyBlock(31, 0, 17), BAD_VALUE);
        due("copyBlock: BAD_VALUE, NO_SUCH (last target)", x.copyBlock(0, 31, 17), BAD_VALUE);
        due("fill: NO_SUCH, BAD_VALUE (words)", x.fill(32, 0, 0), NO_SUCH);
        due("fill: NO_SUCH, BAD_VALUE (value)", x.fill(-1, 1, 65536), NO_SUCH);
        due("fill: BAD_VALUE (words), NO_SUCH (last)", x.fill(31, 17, 0), BAD_VALUE);
        due("fill: BAD_VALUE (value), NO_SUCH (last)", x.fill(31, 2, -1), BAD_VALUE);
    }

    private void orderOfTasks() {
        PoisonedMemory x = new PoisonedMemory();
        due("setMode: NO_SUCH, BAD_VALUE", x.setMode(4, 3), NO_SUCH);
        due("setRegister: NO_SUCH (task), BAD_VALUE", x.setRegister(4, 0, 65536), NO_SUCH);
        due("setRegister: NO_SUCH (register), BAD_VALUE", x.setRegister(0, 4, -1), NO_SUCH);
        due("loadByte: NO_SUCH (task), BAD_VALUE", x.loadByte(-1, 0, 0, 2), NO_SUCH);
        due("loadByte: NO_SUCH (register), BAD_VALUE", x.loadByte(0, 4, 0, 2), NO_SUCH);
        due("loadByte: NO_SUCH (word), BAD_VALUE", x.loadByte(0, 0, 32, -1), NO_SUCH);
        due("storeByte: NO_SUCH (task), BAD_VALUE", x.storeByte(-1, 0, 0, 2), NO_SUCH);
        due("storeByte: NO_SUCH (register), BAD_VALUE", x.storeByte(0, 4, 0, 2), NO_SUCH);
        due("storeByte: NO_SUCH (word), BAD_VALUE", x.storeByte(0, 0, 32, -1), NO_SUCH);
        due("compute: NO_SUCH (task), BAD_VALUE", x.compute(4, 4, 0, 0, 0), NO_SUCH);
        due("compute: NO_SUCH (target), BAD_VALUE", x.compute(0, 4, 4, 0, 0), NO_SUCH);
        due("compute: NO_SUCH (first), BAD_VALUE", x.compute(0, -1, 0, 4, 0), NO_SUCH);
        due("compute: NO_SUCH (second), BAD_VALUE", x.compute(0, 4, 0, 0, -1), NO_SUCH);
    }

    private void orderOfStoppedTasks() {
        PoisonedMemory x = new PoisonedMemory();
        Check.stop(x, 0);
        due("setRegister: NO_SUCH, NOT_POSSIBLE", x.setRegister(0, 4, 0), NO_SUCH);
        due("setRegister: BAD_VALUE, NOT_POSSIBLE", x.setRegister(0, 0, 65536), BAD_VALUE);
        due("load: NO_SUCH (register), NOT_POSSIBLE", x.load(0, 4, 0), NO_SUCH);
        due("load: NO_SUCH (word), NOT_POSSIBLE", x.load(0, 0, 32), NO_SUCH);
        due("loadByte: NO_SUCH, NOT_POSSIBLE", x.loadByte(0, 0, 32, 0), NO_SUCH);
        due("loadByte: BAD_VALUE, NOT_POSSIBLE", x.loadByte(0, 0, 0, 2), BAD_VALUE);
        due("store: NO_SUCH (register), NOT_POSSIBLE", x.store(0, 4, 0), NO_SUCH);
        due("store: NO_SUCH (word), NOT_POSSIBLE", x.store(0, 0, 32), NO_SUCH);
        due("storeByte: NO_SUCH, NOT_POSSIBLE", x.storeByte(0, 0, 32, 0), NO_SUCH);
        due("storeByte: BAD_VALUE, NOT_POSSIBLE", x.storeByte(0, 0, 0, 2), BAD_VALUE);
        due("move: NO_SUCH (target), NOT_POSSIBLE", x.move(0, 4, 0), NO_SUCH);
        due("move: NO_SUCH (source), NOT_POSSIBLE", x.move(0, 0, 4), NO_SUCH);
        due("compute: NO_SUCH, NOT_POSSIBLE", x.compute(0, 0, 0, 0, 4), NO_SUCH);
        due("compute: BAD_VALUE, NOT_POSSIBLE", x.compute(0, 4, 0, 0, 0), BAD_VALUE);
        due("loadAt: NO_SUCH (target), NOT_POSSIBLE", x.loadAt(0, 4, 0), NO_SUCH);
        due("loadAt: NO_SUCH (address), NOT_POSSIBLE", x.loadAt(0, 0, 4), NO_SUCH);
        due("output: NO_SUCH, NOT_POSSIBLE", x.output(0, 4), NO_SUCH);
        due("compute: NOT_POSSIBLE, though it would be a fault", x.compute(0, 0, 1, 0, 0), NOT_POSSIBLE);
        due("loadAt: NOT_POSSIBLE, though it would be a fault", x.loadAt(0, 1, 0), NOT_POSSIBLE);
        due("output: NOT_POSSIBLE, though it would be a fault", x.output(0, 0), NOT_POSSIBLE);
    }

    private void orderOfTexts() {
        PoisonedMemory x = new PoisonedMemory();
        prepare(x);
        due("append: BAD_VALUE, TOO_MANY", x.append(127), BAD_VALUE);
        due("log: BAD_VALUE (part), NONE", x.log(9, 4), BAD_VALUE);
        due("log: BAD_VALUE (ago), both out of range", x.log(-1, 4), BAD_VALUE);
        due("carriersWithout: NO_SUCH, both", x.carriersWithout(20, 32), NO_SUCH);
    }

    private void noneAndFault(PoisonedMemory x) {
        x.setMode(0, SKIP);
        poisonRegister(x, 0, 0, 5);
        due("FAULT", x.output(0, 0), FAULT);
        due("changes the log", x.log(0, 0), 0);
        due("is recorded", x.undo(), 3);
        due("and is undone", x.faults(), 0);
        type(x, "O00;V01=3");
        due("run counts an operation with FAULT", x.run(), 2);
        due("and goes on", x.register(0, 1), 3);
        PoisonedMemory y = new PoisonedMemory();
        due("NONE of undo", y.undo(), NONE);
        due("NONE of origin", y.origin(0), NONE);
        due("an object goes on after NONE", y.inject(0), 0);
        due("and records", y.undo(), 0);
    }

    private void constants() {
        plain("The constants:");
        says("`NO_SUCH = -1`: There is no such word, page, task, register or origin.", x -> {
            due("NO_SUCH", PoisonedMemory.NO_SUCH, -1);
            due("word", x.value(32), -1);
            due("page", x.poisoned(8), -1);
            due("task", x.mode(4), -1);
            due("register", x.register(0, 4), -1);
            due("origin", x.carriers(0), -1);
        });
        says("`BAD_VALUE = -2`: Another argument is out of its range.", x -> {
            due("BAD_VALUE", PoisonedMemory.BAD_VALUE, -2);
            due("words", x.copyBlock(0, 0, 17), -2);
            due("value", x.fill(0, 1, 65536), -2);
            due("mode", x.setMode(0, 3), -2);
            due("part of a word", x.loadByte(0, 0, 0, 2), -2);
            due("operator", x.compute(0, 4, 0, 0, 0), -2);
            due("character", x.append(127), -2);
            due("ago", x.log(-1, 0), -2);
            due("part of a fault", x.log(0, 4), -2);
        });
        says("`BAD_TEXT = -3`: The text has a fault.", x -> {
            due("BAD_TEXT", PoisonedMemory.BAD_TEXT, -3);
            due("run", x.run(), -3);
            due("stopsAt", x.stopsAt(), -3);
            type(x, "I0");
            due("run without a fault", x.run(), 1);
        });
        says("`TOO_MANY = -4`: There is no more room.", x -> {
            due("TOO_MANY", PoisonedMemory.TOO_MANY, -4);
            for (int i = 0; i < 20; i++) {
                x.inject(0);
            }
            due("inject", x.inject(0), -4);
            for (int i = 0; i < 90; i++) {
                x.append('I');
            }
            due("append", x.append('I'), -4);
        });
        says("`NOT_POSSIBLE = -5`: The call is not possible in the present state.", x -> {
            due("NOT_POSSIBLE", PoisonedMemory.NOT_POSSIBLE, -5);
            Check.stop(x, 1);
            due("output", x.output(1, 1), -5);
            due("output of another task", x.output(2, 1), 0);
        });
        says("`NONE = -6`: There is no result; this is not an error code.", x -> {
            due("NONE", PoisonedMemory.NONE, -6);
            due("undo", x.undo(), -6);
            due("origin", x.origin(0), -6);
            due("widest", x.widest(), -6);
        });
        says("`FAULT = -7`: There was a fault, and the operation was not done; this is not an error code.", x -> {
            due("FAULT", PoisonedMemory.FAULT, -7);
            poisonRegister(x, 0, 0, 5);
            due("output", x.output(0, 0), -7);
            due("faults", x.faults(), 1);
            x.setMode(1, ZERO);
            poisonRegister(x, 1, 0, 5);
            due("a fault, and the operation was done", x.output(1, 0), 0);
            due("faults", x.faults(), 2);
        });
    }

    private void groups() {
        plain("Ahead of the calls `inject`, `copyBlock`, `fill`, `setMirror`, `scrub` the interface says: ---- memory (actions).",
            "Ahead of the calls `setMode`, `restart` the interface says: ---- tasks (actions).",
            "Ahead of the calls `setRegister`, `load`, `loadByte`, `store`, `storeByte`, `move`, `compute`, `loadAt`, `output` "
            + "the interface says: ---- operations of tasks (actions).",
            "Ahead of the calls `append`, `clearText`, `fault`, `run`, `undo` the interface says: ---- text and history.",
            "Ahead of the calls `value`, `origin`, `hops`, `mirrorValue`, `mirrorOrigin`, `register`, `registerOrigin`, "
            + "`registerHops`, `mode`, `stopped`, `injections`, `source`, `faults`, `log`, `healed` the interface says: ----");
        says("what there is; these methods change nothing (they do not fetch words).", x -> {
            asked("value", y -> y.value(4));
            asked("origin", y -> y.origin(4));
            asked("hops", y -> y.hops(4));
            asked("mirrorValue", y -> y.mirrorValue(4));
            asked("mirrorOrigin", y -> y.mirrorOrigin(4));
            asked("register", y -> y.register(1, 1));
            asked("registerOrigin", y -> y.registerOrigin(1, 1));
            asked("registerHops", y -> y.registerHops(1, 1));
            asked("mode", y -> y.mode(1));
            asked("stopped", y -> y.stopped(0));
            asked("injections", PoisonedMemory::injections);
            asked("source", y -> y.source(19));
            asked("faults", PoisonedMemory::faults);
            asked("log", y -> y.log(0, 0));
            asked("healed", PoisonedMemory::healed);
        });
        plain("Ahead of the calls `poisoned`, `carriers`, `farthest`, `widest`, `atRisk`, `poisonShare` the interface says: ----");
        says("how far a poison has spread; these methods change nothing.", x -> {
            asked("poisoned", y -> y.poisoned(1));
            asked("carriers", y -> y.carriers(19));
            asked("farthest", y -> y.farthest(19));
            asked("widest", PoisonedMemory::widest);
            asked("atRisk", PoisonedMemory::atRisk);
            asked("poisonShare", y -> (int) y.poisonShare());
        });
        plain("Ahead of the calls `poisonedIfScrubbed`, `bestScrub`, `carriersWithout`, `stopsAt` the interface says: ----");
        says("what would be; these methods change nothing.", x -> {
            asked("poisonedIfScrubbed", PoisonedMemory::poisonedIfScrubbed);
            asked("bestScrub", PoisonedMemory::bestScrub);
            asked("carriersWithout", y -> y.carriersWithout(19, 4));
            asked("stopsAt", PoisonedMemory::stopsAt);
            Consumer<PoisonedMemory> stopping = y -> {
                prepare(y);
                y.setMode(1, STOP);
                type(y, "L12,4;S11,4;V13=5;M121;O12;V10=9");
            };
            due("stopsAt leaves all", leavesAll(stopping, PoisonedMemory::stopsAt), 1);
            stopping.accept(x);
            due("stopsAt", x.stopsAt(), 4);
            due("stopsAt again", x.stopsAt(), 4);
        });
    }

    private void asked(String question, ToIntFunction<PoisonedMemory> call) {
        Consumer<PoisonedMemory> silent = y -> call.applyAsInt(y);
        due(question + " leaves all", leavesAll(BoundaryErrors::prepare, silent), 1);
        PoisonedMemory x = new PoisonedMemory();
        prepare(x);
        int first = call.applyAsInt(x);
        due(question + " again", call.applyAsInt(x), first);
    }
}
