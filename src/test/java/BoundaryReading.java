import java.util.function.ToIntFunction;

/** The sentences of the promises 23 to 37: what there is. */
final class BoundaryReading extends Boundary {
    BoundaryReading(Sentences document) {
        super(document);
    }

    @Override
    void all() {
        promise23();
        promise24();
        promise25();
        promise26();
        promise27();
        promise28();
        promise29();
        promise30();
        promise31();
        promise32();
        promise33();
        promise34();
        promise35();
        promise36();
        promise37();
    }

    /** Word 0 has the value 65535 and the origin 0, word 31 the value 1 and the origin 1, and 31 hops. */
    private static PoisonedMemory poisonedEnds() {
        PoisonedMemory x = new PoisonedMemory();
        x.fill(0, 1, 65535);
        x.fill(31, 1, 1);
        x.inject(0);
        poisonWord(x, 31, 31);
        return x;
    }

    /** The argument's sentence, and the sentence of its error code: the call is asked at, within and beyond both ends. */
    private void wordArgument(TaskCall call, int atFirst, int atLast, int within) {
        says("`word`: 0 to 31", x -> {
            range("word", 0, 31, NO_SUCH, word -> call.of(x, word));
            PoisonedMemory y = poisonedEnds();
            due("word 0", call.of(y, 0), atFirst);
            due("word 1", call.of(y, 1), within);
            due("word 30", call.of(y, 30), within);
            due("word 31", call.of(y, 31), atLast);
        });
    }

    private void noSuchWord(String sentence, TaskCall call) {
        says(sentence, x -> {
            for (PoisonedMemory y : new PoisonedMemory[] {x, poisonedEnds()}) {
                range("word", 0, 31, NO_SUCH, word -> call.of(y, word));
            }
        });
    }

    private void promise23() {
        section("Promise 23");
        plain("Returns the value of a word.");
        wordArgument(PoisonedMemory::value, 65535, 1, 0);
        says("Returns the value;", x -> {
            for (int value : new int[] {0, 1, 65534, 65535}) {
                x.fill(9, 1, value);
                due("a clean word", x.value(9), value);
                x.inject(9);
                due("a poisoned word", x.value(9), value);
            }
        });
        noSuchWord("NO_SUCH if there is no such word.", PoisonedMemory::value);
    }

    private void promise24() {
        section("Promise 24");
        plain("Returns the origin of a word.");
        wordArgument(PoisonedMemory::origin, 0, 1, NONE);
        says("Returns the origin;", x -> {
            for (int origin = 0; origin < 20; origin++) {
                x.inject(9);
                due("origin", x.origin(9), origin);
            }
        });
        noSuchWord("NO_SUCH if there is no such word;", PoisonedMemory::origin);
        says("NONE if it is clean.", x -> {
            due("at first", x.origin(9), NONE);
            x.inject(9);
            due("the origin 0 is not NONE", x.origin(9), 0);
            x.inject(10);
            x.store(0, 0, 9);
            due("clean again", x.origin(9), NONE);
            due("the word behind it", x.origin(10), 1);
            x.setMirror(2, true);
            x.inject(9);
            due("it would be healed, but it is not fetched", x.origin(9), 2);
            x.scrub(2);
            due("healed", x.origin(9), NONE);
        });
    }

    private void promise25() {
        section("Promise 25");
        plain("Returns the hops of a word.");
        wordArgument(PoisonedMemory::hops, 0, 31, NONE);
        says("Returns the number of hops;", x -> {
            x.inject(9);
            for (int hops = 0; hops <= 99; hops++) {
                due("hops", x.hops(9), hops);
                x.copyBlock(9, 9, 1);
            }
            due("hops", x.hops(9), 99);
        });
        noSuchWord("NO_SUCH if there is no such word;", PoisonedMemory::hops);
        says("NONE if it is clean.", x -> {
            due("at first", x.hops(9), NONE);
            x.inject(9);
            due("0 hops are not NONE", x.hops(9), 0);
            x.fill(9, 1, 0);
            due("clean again", x.hops(9), NONE);
            x.setMirror(2, true);
            poisonWord(x, 9, 0);
            due("it would be healed, but it is not fetched", x.hops(9), 0);
            x.scrub(2);
            due("healed", x.hops(9), NONE);
        });
    }

    /** All pages are mirrored; the second copies of the words 0 and 31 are poisoned. */
    private static PoisonedMemory mirroredEnds() {
        PoisonedMemory x = poisonedEnds();
        for (int page = 0; page < 8; page++) {
            x.setMirror(page, true);
        }
        return x;
    }

    private void mirroredArgument(TaskCall call, int atFirst, int atLast, int within) {
        says("`word`: 0 to 31", x -> {
            PoisonedMemory y = mirroredEnds();
            range("word", 0, 31, NO_SUCH, word -> call.of(y, word));
            range("word without a mirror", 0, 31, NO_SUCH, word -> call.of(x, word));
            due("word 0", call.of(y, 0), atFirst);
            due("word 1", call.of(y, 1), within);
            due("word 30", call.of(y, 30), within);
            due("word 31", call.of(y, 31), atLast);
        });
    }

    private void promise26() {
        section("Promise 26");
        plain("Returns the value of the second copy of a word.");
        mirroredArgument(PoisonedMemory::mirrorValue, 65535, 1, 0);
        says("Returns the value;", x -> {
            x.setMirror(2, true);
            for (int value : new int[] {0, 1, 65535}) {
                x.fill(8, 4, value);
                due("the first word of the page", x.mirrorValue(8), value);
                due("the last word of the page", x.mirrorValue(11), value);
                x.inject(8);
                due("after an injection", x.mirrorValue(8), value);
            }
        });
        noSuchMirrored(PoisonedMemory::mirrorValue);
        says("NONE if its page is not mirrored.", x -> {
            x.setMirror(2, true);
            for (int word = 7; word <= 12; word++) {
                due("mirrorValue(" + word + ")", x.mirrorValue(word), word == 7 || word == 12 ? NONE : 0);
            }
            x.setMirror(2, false);
            due("no longer", x.mirrorValue(8), NONE);
            due("no longer", x.mirrorValue(11), NONE);
        });
    }

    private void noSuchMirrored(TaskCall call) {
        says("NO_SUCH if there is no such word;", x -> {
            PoisonedMemory y = mirroredEnds();
            range("word of mirrored pages", 0, 31, NO_SUCH, word -> call.of(y, word));
            range("word without a mirror: NO_SUCH, not NONE", 0, 31, NO_SUCH, word -> call.of(x, word));
        });
    }

    private void promise27() {
        section("Promise 27");
        plain("Returns the origin of the second copy of a word.");
        mirroredArgument(PoisonedMemory::mirrorOrigin, 0, 1, NONE);
        says("Returns the origin;", x -> {
            for (int origin = 0; origin < 20; origin++) {
                x.inject(11);
                due("before", x.mirrorOrigin(11), origin == 0 ? NONE : origin - 1);
                x.setMirror(2, true);
                due("origin", x.mirrorOrigin(11), origin);
            }
        });
        noSuchMirrored(PoisonedMemory::mirrorOrigin);
        says("NONE if its page is not mirrored, or the second copy is clean.", x -> {
            x.inject(8);
            due("poisoned, not mirrored", x.mirrorOrigin(8), NONE);
            x.setMirror(2, true);
            due("poisoned, mirrored", x.mirrorOrigin(8), 0);
            due("clean, mirrored", x.mirrorOrigin(9), NONE);
            x.inject(9);
            due("a clean second copy of a poisoned word", x.mirrorOrigin(9), NONE);
            x.inject(7);
            due("the page before", x.mirrorOrigin(7), NONE);
            x.setMirror(2, false);
            due("no longer mirrored", x.mirrorOrigin(8), NONE);
        });
    }

    /** The register 3 of the task 3 has the value 65535, the register 0 of the task 0 the value 1; both are poisoned. */
    private static PoisonedMemory poisonedRegisters() {
        PoisonedMemory x = new PoisonedMemory();
        x.fill(5, 1, 65535);
        poisonRegister(x, 3, 3, 5);
        x.fill(6, 1, 1);
        poisonRegister(x, 0, 0, 6);
        x.move(0, 0, 0);
        return x;
    }

    private interface RegisterCall {
        int of(PoisonedMemory memory, int task, int register);
    }

    private void registerArguments(RegisterCall call, int atFirst, int atLast, int within) {
        says("`task`: 0 to 3", x -> {
            PoisonedMemory y = poisonedRegisters();
            range("task", 0, 3, NO_SUCH, task -> call.of(y, task, 1));
            due("task 0", call.of(y, 0, 0), atFirst);
            due("task 1", call.of(y, 1, 0), within);
            due("task 2", call.of(y, 2, 3), within);
            due("task 3", call.of(y, 3, 3), atLast);
        });
        says("`register`: 0 to 3", x -> {
            PoisonedMemory y = poisonedRegisters();
            range("register", 0, 3, NO_SUCH, register -> call.of(y, 2, register));
            due("register 0", call.of(y, 0, 0), atFirst);
            due("register 1", call.of(y, 0, 1), within);
            due("register 2", call.of(y, 3, 2), within);
            due("register 3", call.of(y, 3, 3), atLast);
        });
    }

    private void noSuchRegister(String sentence, RegisterCall call) {
        says(sentence, x -> {
            range("task", 0, 3, NO_SUCH, task -> call.of(x, task, 0));
            for (int task = 0; task < 4; task++) {
                int one = task;
                range("register", 0, 3, NO_SUCH, register -> call.of(x, one, register));
            }
            due("neither", call.of(x, 4, 4), NO_SUCH);
            due("neither", call.of(x, -1, -1), NO_SUCH);
            Check.stop(x, 0);
            accepted("a stopped task", call.of(x, 0, 0));
        });
    }

    private void promise28() {
        section("Promise 28");
        plain("Returns the value of a register.");
        registerArguments(PoisonedMemory::register, 1, 65535, 0);
        says("Returns the value;", x -> {
            for (int value : new int[] {0, 1, 65534, 65535}) {
                x.fill(5, 1, value);
                x.load(1, 1, 5);
                due("a clean register", x.register(1, 1), value);
                poisonRegister(x, 1, 1, 5);
                due("a poisoned register", x.register(1, 1), value);
            }
            due("asking is no use", x.faults(), 0);
        });
        noSuchRegister("NO_SUCH if there is no such task or register.", PoisonedMemory::register);
    }

    private void promise29() {
        section("Promise 29");
        plain("Returns the origin of a register.");
        registerArguments(PoisonedMemory::registerOrigin, 1, 0, NONE);
        says("Returns the origin;", x -> {
            for (int origin = 0; origin < 20; origin++) {
                poisonRegister(x, 2, 1, 9);
                due("origin", x.registerOrigin(2, 1), origin);
            }
        });
        noSuchRegister("NO_SUCH if there is no such task or register;", PoisonedMemory::registerOrigin);
        says("NONE if it is clean.", x -> {
            due("at first", x.registerOrigin(2, 1), NONE);
            poisonRegister(x, 2, 1, 9);
            due("the origin 0 is not NONE", x.registerOrigin(2, 1), 0);
            due("the one before", x.registerOrigin(2, 0), NONE);
            due("the one behind", x.registerOrigin(2, 2), NONE);
            x.setRegister(2, 1, 0);
            due("clean again", x.registerOrigin(2, 1), NONE);
        });
    }

    private void promise30() {
        section("Promise 30");
        plain("Returns the hops of a register.");
        registerArguments(PoisonedMemory::registerHops, 2, 1, NONE);
        says("Returns the number of hops;", x -> {
            poisonRegister(x, 2, 1, 9);
            for (int hops = 1; hops <= 99; hops++) {
                due("hops", x.registerHops(2, 1), hops);
                x.move(2, 1, 1);
            }
            due("hops", x.registerHops(2, 1), 99);
        });
        noSuchRegister("NO_SUCH if there is no such task or register;", PoisonedMemory::registerHops);
        says("NONE if it is clean.", x -> {
            due("at first", x.registerHops(2, 1), NONE);
            poisonRegister(x, 2, 1, 9);
            due("1 hop", x.registerHops(2, 1), 1);
            x.restart(2);
            due("clean again", x.registerHops(2, 1), NONE);
        });
    }

    private void taskArgument(ToIntFunction<int[]> atTask, TaskCall call) {
        says("`task`: 0 to 3", x -> {
            range("task", 0, 3, NO_SUCH, task -> call.of(x, task));
            for (int task = 0; task < 4; task++) {
                PoisonedMemory y = new PoisonedMemory();
                y.setMode(task, STOP);
                Check.stop(y, task);
                y.setMode(task, ZERO);
                for (int other = 0; other < 4; other++) {
                    due("task " + other + ", of " + task + " it is so", call.of(y, other),
                        atTask.applyAsInt(new int[] {task, other}));
                }
            }
        });
    }

    private void promise31() {
        section("Promise 31");
        plain("Returns the mode of a task.");
        taskArgument(pair -> pair[0] == pair[1] ? ZERO : STOP, PoisonedMemory::mode);
        says("Returns the mode;", x -> {
            due("at first", x.mode(3), STOP);
            for (int mode : new int[] {2, 1, 0, 2}) {
                x.setMode(3, mode);
                due("mode", x.mode(3), mode);
            }
            x.setMode(3, 3);
            x.setMode(3, -1);
            due("after modes that were refused", x.mode(3), 2);
        });
        says("NO_SUCH if there is no such task.", x -> range("task", 0, 3, NO_SUCH, x::mode));
    }

    private void promise32() {
        section("Promise 32");
        plain("Tells whether a task is stopped.");
        taskArgument(pair -> pair[0] == pair[1] ? 1 : 0, PoisonedMemory::stopped);
        says("Returns 1 if it is stopped, 0 if it is running;", x -> {
            due("at first", x.stopped(1), 0);
            x.setMode(1, SKIP);
            Check.stop(x, 1);
            due("a fault in mode 1", x.stopped(1), 0);
            x.setMode(1, ZERO);
            Check.stop(x, 1);
            due("a fault in mode 2", x.stopped(1), 0);
            x.setMode(1, STOP);
            Check.stop(x, 1);
            due("a fault in mode 0", x.stopped(1), 1);
            x.setMode(1, SKIP);
            due("setMode does not restart", x.stopped(1), 1);
            x.restart(1);
            due("restarted", x.stopped(1), 0);
        });
        says("NO_SUCH if there is no such task.", x -> range("task", 0, 3, NO_SUCH, x::stopped));
    }

    private void promise33() {
        section("Promise 33");
        plain("Returns the number of injections.");
        says("Returns how many injections there were.", x -> {
            for (int count = 0; count < 20; count++) {
                due("injections", x.injections(), count);
                x.inject(7);
            }
            due("20 injections", x.injections(), 20);
            x.inject(7);
            due("a 21st was refused", x.injections(), 20);
            x.fill(7, 1, 0);
            due("the poison is gone", x.injections(), 20);
            x.undo();
            x.undo();
            due("one is undone", x.injections(), 19);
            x.inject(32);
            due("one was refused", x.injections(), 19);
        });
    }

    private void promise34() {
        section("Promise 34");
        plain("Returns the word in which a poison began.");
        says("`origin`: number of an injection", x -> {
            due("at first there is none", x.source(0), NO_SUCH);
            for (int count = 1; count <= 20; count++) {
                x.inject(31);
                due("the first", x.source(0), 31);
                due("the last", x.source(count - 1), 31);
                due("the next", x.source(count), NO_SUCH);
            }
            due("-1", x.source(-1), NO_SUCH);
        });
        says("Returns the word that was injected;", x -> {
            x.inject(0);
            x.inject(31);
            x.inject(31);
            x.copyBlock(0, 9, 1);
            due("word 0", x.source(0), 0);
            due("word 31", x.source(1), 31);
            due("word 31 again", x.source(2), 31);
            x.fill(0, 1, 0);
            due("a poison that went on to other words", x.source(0), 0);
            x.fill(9, 1, 0);
            due("a poison that is gone", x.source(0), 0);
        });
        says("NO_SUCH if there is no such injection.", x -> {
            for (int i = 0; i < 3; i++) {
                x.inject(i);
            }
            range("origin", 0, 2, NO_SUCH, x::source);
            x.undo();
            due("an injection that is undone", x.source(2), NO_SUCH);
            due("the one before", x.source(1), 1);
            for (int i = 0; i < 18; i++) {
                x.inject(5);
            }
            range("origin", 0, 19, NO_SUCH, x::source);
        });
    }

    private void promise35() {
        section("Promise 35");
        plain("Returns the number of faults.");
        says("Returns how many faults there were.", x -> {
            x.setMode(0, SKIP);
            poisonRegister(x, 0, 0, 5);
            for (int count = 0; count <= 20; count++) {
                due("faults", x.faults(), count);
                x.output(0, 0);
            }
            due("more than the log holds", x.faults(), 21);
            x.undo();
            due("one is undone", x.faults(), 20);
            x.output(0, 4);
            x.output(0, 1);
            due("no fault", x.faults(), 20);
            x.setMode(0, ZERO);
            x.output(0, 0);
            due("a fault in mode 2", x.faults(), 21);
            poisonRegister(x, 0, 0, 5);
            x.setMode(0, STOP);
            x.output(0, 0);
            due("a fault in mode 0", x.faults(), 22);
            x.output(0, 0);
            due("a stopped task has none", x.faults(), 22);
        });
    }

    /** Task k faults with its register k; before that the other tasks fault so often with the register 0. */
    private static PoisonedMemory faulty(int faults) {
        PoisonedMemory x = new PoisonedMemory();
        x.inject(20);
        x.inject(5);
        for (int task = 0; task < 4; task++) {
            x.setMode(task, task == 3 ? STOP : SKIP);
            for (int register = 0; register < 4; register++) {
                x.load(task, register, task == 3 ? 20 : 5);
            }
        }
        for (int fault = 0; fault < faults; fault++) {
            x.output(fault % 3, fault / 3 % 4);
        }
        return x;
    }

    private void promise36() {
        section("Promise 36");
        plain("Returns something about a fault in the log.");
        says("`ago`: 0 for the latest fault, 1 for the one before, and so on", x -> {
            PoisonedMemory y = faulty(8);
            for (int ago = 0; ago < 8; ago++) {
                due("the task " + ago + " ago", y.log(ago, 0), (7 - ago) % 3);
                due("the register " + ago + " ago", y.log(ago, 1), (7 - ago) / 3);
            }
            y.output(3, 2);
            due("one fault later, the latest", y.log(0, 0), 3);
            due("the one before", y.log(1, 0), 7 % 3);
            due("the oldest", y.log(7, 0), 1);
            due("its register", y.log(7, 1), 0);
        });
        says("`part`: 0 for the task, 1 for the register, 2 for the origin, 3 for the mode of the task at the fault", x -> {
            PoisonedMemory y = faulty(0);
            y.output(2, 3);
            y.output(3, 1);
            y.setMode(3, ZERO);
            y.setMode(2, ZERO);
            range("part", 0, 3, BAD_VALUE, part -> y.log(0, part));
            due("the task", y.log(0, 0), 3);
            due("the register", y.log(0, 1), 1);
            due("the origin", y.log(0, 2), 0);
            due("the mode at the fault", y.log(0, 3), STOP);
            due("the task before", y.log(1, 0), 2);
            due("the register before", y.log(1, 1), 3);
            due("the origin before", y.log(1, 2), 1);
            due("the mode before", y.log(1, 3), SKIP);
            y.output(2, 0);
            due("the mode 2", y.log(0, 3), ZERO);
        });
        says("Returns the number;", x -> {
            PoisonedMemory y = faulty(0);
            y.output(0, 0);
            for (int part = 0; part < 4; part++) {
                due("part " + part, y.log(0, part), new int[] {0, 0, 1, SKIP}[part]);
            }
        });
        says("BAD_VALUE if ago is below 0 or part is out of range;", x -> {
            for (PoisonedMemory y : new PoisonedMemory[] {x, faulty(9)}) {
                range("part", 0, 3, BAD_VALUE, part -> y.log(0, part));
                due("ago -1", y.log(-1, 0), BAD_VALUE);
                due("ago -1", y.log(-1, 3), BAD_VALUE);
                accepted("ago 0", y.log(0, 0));
                due("the least ago", y.log(Integer.MIN_VALUE, 0), BAD_VALUE);
                due("part 4 comes before NONE", y.log(8, 4), BAD_VALUE);
                due("part -1 comes before NONE", y.log(Integer.MAX_VALUE, -1), BAD_VALUE);
            }
        });
        says("NONE if the log does not hold so many faults.", x -> {
            for (int faults = 0; faults <= 10; faults++) {
                PoisonedMemory y = faulty(faults);
                int held = Math.min(faults, 8);
                for (int part = 0; part < 4; part++) {
                    if (held > 0) {
                        due("the oldest of " + faults, y.log(held - 1, part) >= 0 ? 1 : 0, 1);
                    }
                    due("one more than the log holds, of " + faults, y.log(held, part), NONE);
                    due("two more, of " + faults, y.log(held + 1, part), NONE);
                    due("the greatest ago", y.log(Integer.MAX_VALUE, part), NONE);
                }
                due("as many as there were faults", y.log(faults, 0), NONE);
            }
        });
    }

    private void promise37() {
        section("Promise 37");
        plain("Returns the number of words that were healed.");
        says("Returns how often a word was healed so far.", x -> {
            x.setMirror(0, true);
            due("at first", x.healed(), 0);
            for (int times = 1; times <= 5; times++) {
                x.inject(3);
                due("before", x.healed(), times - 1);
                x.load(0, 0, 3);
                due("the same word once more", x.healed(), times);
                x.load(0, 0, 3);
                due("a clean word is not healed", x.healed(), times);
            }
            x.inject(0);
            x.inject(3);
            x.scrub(0);
            due("two at once", x.healed(), 7);
            x.undo();
            due("undone", x.healed(), 5);
            x.store(0, 0, 0);
            x.fill(3, 1, 0);
            due("writing is not healing", x.healed(), 5);
            x.inject(4);
            x.load(0, 0, 4);
            due("a page without a mirror", x.healed(), 5);
        });
    }
}
