/** The sentences of the promises 7 to 17: setMode, restart and the operations of tasks. */
final class BoundaryTasks extends Boundary {
    BoundaryTasks(Sentences document) {
        super(document);
    }

    @Override
    void all() {
        promise7();
        promise8();
        promise9();
        promise10();
        promise11();
        promise12();
        promise13();
        promise13Answers();
        promise14();
        promise15();
        promise15Arguments();
        promise15Answers();
        promise16();
        promise16Answers();
        promise17();
    }

    /** The argument is the number of a task: the range of the calls, and that each task is one of its own. */
    private void taskArgument(TaskCall call) {
        says("`task`: 0 to 3", x -> {
            range("task", 0, 3, NO_SUCH, task -> call.of(x, task));
            for (int task = 0; task < 4; task++) {
                PoisonedMemory y = marked();
                String before = Check.stateOf(y);
                PoisonedMemory z = marked();
                call.of(z, task);
                changesOnly(before, Check.stateOf(z), task);
            }
        });
    }

    /** Each register has another value; no task is stopped. */
    private static PoisonedMemory marked() {
        PoisonedMemory x = new PoisonedMemory();
        for (int task = 0; task < 4; task++) {
            x.setMode(task, SKIP);
            for (int register = 0; register < 4; register++) {
                x.setRegister(task, register, 600 + 10 * task + register);
            }
        }
        x.fill(5, 1, 7777);
        return x;
    }

    /** In the text of the state, the lines of the other tasks are as they were. */
    private void changesOnly(String before, String after, int task) {
        String[] linesBefore = before.split("\n");
        String[] linesAfter = after.split("\n");
        for (int line = 32; line < 48; line++) {
            if ((line - 32) / 4 != task) {
                due("line " + line + " of the state, task " + task, linesAfter[line].equals(linesBefore[line]) ? 1 : 0, 1);
            }
        }
    }

    private void promise7() {
        section("Promise 7");
        plain("Changes the mode of a task.");
        taskArgument((x, task) -> x.setMode(task, ZERO));
        says("`mode`: 0 to 2", x -> {
            range("mode", 0, 2, BAD_VALUE, mode -> x.setMode(3, mode));
            for (int mode : new int[] {0, 1, 2}) {
                x.setMode(3, mode);
                due("mode", x.mode(3), mode);
            }
            due("another task", x.mode(2), 0);
        });
        says("Returns the previous mode;", x -> {
            due("at first", x.setMode(1, 2), 0);
            due("then", x.setMode(1, 1), 2);
            due("then", x.setMode(1, 0), 1);
            due("the same again", x.setMode(1, 0), 0);
            x.setMode(1, 2);
            Check.stop(x, 1);
            x.setMode(1, 0);
            Check.stop(x, 1);
            due("a stopped task", x.setMode(1, 1), 0);
            due("it is stopped still", x.stopped(1), 1);
        });
        says("NO_SUCH if there is no such task;", x -> {
            range("task", 0, 3, NO_SUCH, task -> x.setMode(task, 1));
            due("task 4 comes before mode 3", x.setMode(4, 3), NO_SUCH);
            due("task -1 comes before mode -1", x.setMode(-1, -1), NO_SUCH);
        });
        says("BAD_VALUE if mode is out of range.", x -> {
            due("-1", x.setMode(0, -1), BAD_VALUE);
            due("0", x.setMode(0, 0), 0);
            due("2", x.setMode(0, 2), 0);
            due("3", x.setMode(0, 3), BAD_VALUE);
            due("the mode stays", x.mode(0), 2);
        });
    }

    private void promise8() {
        section("Promise 8");
        says("Restarts a task: it is running, and its registers become clean with the value 0.", x -> {
            x.fill(5, 1, 70);
            for (int register = 0; register < 4; register++) {
                poisonRegister(x, 2, register, 5);
            }
            x.setRegister(1, 3, 8);
            x.setRegister(3, 0, 9);
            x.output(2, 0);
            due("stopped", x.stopped(2), 1);
            x.restart(2);
            due("running", x.stopped(2), 0);
            for (int register = 0; register < 4; register++) {
                due("value", x.register(2, register), 0);
                due("origin", x.registerOrigin(2, register), NONE);
                due("hops", x.registerHops(2, register), NONE);
            }
            due("the last register of the task before", x.register(1, 3), 8);
            due("the first register of the task behind", x.register(3, 0), 9);
            x.setMode(3, SKIP);
            x.restart(3);
            due("a running task is running", x.stopped(3), 0);
            due("its register", x.register(3, 0), 0);
            due("its mode stays", x.mode(3), SKIP);
        });
        taskArgument(PoisonedMemory::restart);
        says("Returns the number of its registers that were poisoned;", x -> {
            for (int poisoned = 0; poisoned <= 4; poisoned++) {
                for (int register = 0; register < poisoned; register++) {
                    poisonRegister(x, 1, register, 5);
                }
                due(poisoned + " poisoned registers", x.restart(1), poisoned);
            }
            due("none the second time", x.restart(1), 0);
            poisonRegister(x, 0, 3, 5);
            poisonRegister(x, 2, 0, 5);
            due("those of other tasks do not count", x.restart(1), 0);
        });
        says("NO_SUCH if there is no such task.", x -> {
            due("-1", x.restart(-1), NO_SUCH);
            due("0", x.restart(0), 0);
            due("3", x.restart(3), 0);
            due("4", x.restart(4), NO_SUCH);
        });
    }

    private void promise9() {
        section("Promise 9");
        says("Gives a register a value; it becomes clean.", x -> {
            x.fill(5, 1, 70);
            poisonRegister(x, 3, 3, 5);
            due("a poisoned one is no use", x.setRegister(3, 3, 0), 70);
            due("value", x.register(3, 3), 0);
            due("origin", x.registerOrigin(3, 3), NONE);
            due("hops", x.registerHops(3, 3), NONE);
            due("faults", x.faults(), 0);
        });
        taskArgument((x, task) -> x.setRegister(task, 0, 1));
        says("`register`: 0 to 3", x -> {
            range("register", 0, 3, NO_SUCH, register -> x.setRegister(1, register, register + 5));
            for (int register = 0; register < 4; register++) {
                due("register", x.register(1, register), register + 5);
            }
        });
        says("`value`: 0 to 65535", x -> {
            range("value", 0, 65535, BAD_VALUE, value -> x.setRegister(0, 0, value));
            due("65535", x.register(0, 0), 65535);
            x.setRegister(0, 0, 0);
            due("0", x.register(0, 0), 0);
        });
        says("Returns the previous value;", x -> {
            int previous = 0;
            for (int value : new int[] {65535, 0, 1, 1, 65534}) {
                due("setRegister", x.setRegister(2, 1, value), previous);
                previous = value;
            }
        });
        says("NO_SUCH if there is no such task or register;", x -> {
            range("task", 0, 3, NO_SUCH, task -> x.setRegister(task, 0, 1));
            range("register", 0, 3, NO_SUCH, register -> x.setRegister(0, register, 1));
            due("task 4 comes before the value", x.setRegister(4, 0, 65536), NO_SUCH);
            due("register 4 comes before the value", x.setRegister(0, 4, -1), NO_SUCH);
            due("task 1, register -1, is not the register before", x.setRegister(1, -1, 1), NO_SUCH);
        });
        says("BAD_VALUE if value is out of range;", x -> {
            due("-1", x.setRegister(0, 0, -1), BAD_VALUE);
            due("0", x.setRegister(0, 0, 0), 0);
            due("65535", x.setRegister(0, 0, 65535), 0);
            due("65536", x.setRegister(0, 0, 65536), BAD_VALUE);
            due("the value stays", x.register(0, 0), 65535);
            Check.stop(x, 0);
            due("it comes before NOT_POSSIBLE", x.setRegister(0, 0, 65536), BAD_VALUE);
        });
        says("NOT_POSSIBLE if the task is stopped.", x ->
            onlyRunning("setRegister", (y, task) -> y.setRegister(task, 3, 65535)));
    }

    private void promise10() {
        section("Promise 10");
        says("Loads a word: the word is fetched, the register gets its value, and its mark is copied to the register.", x -> {
            x.fill(5, 1, 65535);
            poisonWord(x, 5, 98);
            due("load", x.load(1, 2, 5), 65535);
            due("value", x.register(1, 2), 65535);
            due("origin", x.registerOrigin(1, 2), 0);
            due("hops", x.registerHops(1, 2), 99);
            due("the word keeps its hops", x.hops(5), 98);
            x.setMirror(2, true);
            x.inject(8);
            x.load(1, 2, 8);
            due("a healed word, its mark", x.registerOrigin(1, 2), NONE);
            due("the word itself", x.origin(8), NONE);
            due("no use", x.faults(), 0);
        });
        taskArgument((x, task) -> x.load(task, 0, 5));
        registerArgument((x, register) -> x.load(2, register, 5));
        wordArgument((x, word) -> x.load(0, 1, word), (x, word) -> x.register(0, 1));
        says("Returns the value;", x -> {
            for (int value : new int[] {0, 1, 65535}) {
                x.fill(5, 1, value);
                due("a clean word", x.load(0, 0, 5), value);
                x.inject(5);
                due("a poisoned word", x.load(0, 0, 5), value);
            }
        });
        noSuchTaskRegisterOrWord((x, a) -> x.load(a, 0, 0), (x, a) -> x.load(0, a, 0), (x, a) -> x.load(0, 0, a));
        says("NOT_POSSIBLE if the task is stopped.", x -> onlyRunning("load", (y, task) -> y.load(task, 3, 31)));
    }

    private void registerArgument(TaskCall call) {
        says("`register`: 0 to 3", x -> {
            range("register", 0, 3, NO_SUCH, register -> call.of(x, register));
            for (int register = 0; register < 4; register++) {
                PoisonedMemory y = marked();
                accepted("register " + register, call.of(y, register));
                for (int other = 0; other < 4; other++) {
                    boolean isOther = other != register;
                    due("register " + other, y.register(2, other) == 620 + other ? 1 : 0, isOther ? 1 : 0);
                }
            }
        });
    }

    /** Each word holds another value, and the call answers, or leaves to be asked, what is in it. */
    private void wordArgument(TaskCall call, TaskCall question) {
        says("`word`: 0 to 31", x -> {
            range("word", 0, 31, NO_SUCH, word -> call.of(x, word));
            for (int word = 0; word < 32; word++) {
                x.fill(word, 1, 100 + word);
            }
            for (int word : new int[] {0, 1, 30, 31}) {
                call.of(x, word);
                due("the word " + word, question.of(x, word), 100 + word);
            }
        });
    }

    private void noSuchTaskRegisterOrWord(TaskCall ofTask, TaskCall ofRegister, TaskCall ofWord) {
        says("NO_SUCH if there is no such task, register or word;", x -> {
            range("task", 0, 3, NO_SUCH, task -> ofTask.of(x, task));
            range("register", 0, 3, NO_SUCH, register -> ofRegister.of(x, register));
            range("word", 0, 31, NO_SUCH, word -> ofWord.of(x, word));
            Check.stop(x, 0);
            due("register 4 comes before NOT_POSSIBLE", ofRegister.of(x, 4), NO_SUCH);
            due("word 32 comes before NOT_POSSIBLE", ofWord.of(x, 32), NO_SUCH);
            due("register 3", ofRegister.of(x, 3), NOT_POSSIBLE);
            due("word 31", ofWord.of(x, 31), NOT_POSSIBLE);
        });
    }

    private void promise11() {
        section("Promise 11");
        says("Loads a byte of a word: the word is fetched, the register gets the value of the byte, and the mark of the word "
            + "is copied to the register.", x -> {
            x.fill(5, 1, 0xFF01);
            poisonWord(x, 5, 98);
            for (int part = 0; part < 2; part++) {
                x.loadByte(1, 2, 5, part);
                due("value", x.register(1, 2), part == 0 ? 0x01 : 0xFF);
                due("origin", x.registerOrigin(1, 2), 0);
                due("hops", x.registerHops(1, 2), 99);
            }
            due("the word keeps its hops", x.hops(5), 98);
            due("the word keeps its value", x.value(5), 0xFF01);
            x.setMirror(2, true);
            x.inject(8);
            x.loadByte(1, 2, 8, 1);
            due("a healed word, its mark", x.registerOrigin(1, 2), NONE);
            due("healed", x.healed(), 1);
        });
        taskArgument((x, task) -> x.loadByte(task, 0, 5, 1));
        registerArgument((x, register) -> x.loadByte(2, register, 5, 1));
        wordArgument((x, word) -> x.loadByte(0, 1, word, 0), (x, word) -> x.register(0, 1));
        says("`part`: 0 for the lower byte, 1 for the upper byte", x -> {
            range("part", 0, 1, BAD_VALUE, part -> x.loadByte(0, 0, 5, part));
            x.fill(5, 1, 0x8001);
            due("part 0", x.loadByte(0, 0, 5, 0), 0x01);
            due("part 1", x.loadByte(0, 0, 5, 1), 0x80);
        });
        says("Returns the value of the byte;", x -> {
            for (int value : new int[] {0, 255, 256, 65279, 65280, 65535}) {
                x.fill(5, 1, value);
                due("the lower byte of " + value, x.loadByte(0, 0, 5, 0), value % 256);
                due("the upper byte of " + value, x.loadByte(0, 0, 5, 1), value / 256);
            }
        });
        noSuchTaskRegisterOrWord((x, a) -> x.loadByte(a, 0, 0, 0), (x, a) -> x.loadByte(0, a, 0, 1),
            (x, a) -> x.loadByte(0, 0, a, 0));
        badPart((x, part) -> x.loadByte(0, 0, 5, part), (x, part) -> x.loadByte(0, 0, 32, part));
        says("NOT_POSSIBLE if the task is stopped.", x -> onlyRunning("loadByte", (y, task) -> y.loadByte(task, 3, 31, 1)));
    }

    private void badPart(TaskCall call, TaskCall callWithoutWord) {
        says("BAD_VALUE if part is neither 0 nor 1;", x -> {
            range("part", 0, 1, BAD_VALUE, part -> call.of(x, part));
            due("NO_SUCH comes before part 2", callWithoutWord.of(x, 2), NO_SUCH);
            due("NO_SUCH comes before part -1", callWithoutWord.of(x, -1), NO_SUCH);
            Check.stop(x, 0);
            due("part 2 comes before NOT_POSSIBLE", call.of(x, 2), BAD_VALUE);
            due("part -1 comes before NOT_POSSIBLE", call.of(x, -1), BAD_VALUE);
            due("part 1 of a stopped task", call.of(x, 1), NOT_POSSIBLE);
        });
    }

    private void promise12() {
        section("Promise 12");
        says("Stores a register: the word gets its value, and its mark is copied to the word.", x -> {
            x.fill(5, 1, 65535);
            poisonWord(x, 5, 97);
            x.load(1, 2, 5);
            x.setMirror(2, true);
            x.inject(9);
            x.store(1, 2, 9);
            due("value", x.value(9), 65535);
            due("origin", x.origin(9), 0);
            due("hops", x.hops(9), 99);
            due("the register keeps its hops", x.registerHops(1, 2), 98);
            due("the second copy", x.mirrorOrigin(9), 0);
            due("the word is not fetched", x.healed(), 0);
            x.setRegister(1, 2, 0);
            x.store(1, 2, 9);
            due("a clean register", x.origin(9), NONE);
            due("the second copy", x.mirrorOrigin(9), NONE);
            due("no use", x.faults(), 0);
        });
        taskArgument((x, task) -> x.store(task, 0, 9));
        says("`register`: 0 to 3", x -> {
            range("register", 0, 3, NO_SUCH, register -> x.store(2, register, 20));
            for (int register = 0; register < 4; register++) {
                x.setRegister(2, register, 40 + register);
                x.store(2, register, 20 + register);
            }
            for (int register = 0; register < 4; register++) {
                due("the word of register " + register, x.value(20 + register), 40 + register);
            }
        });
        wordArgument((x, word) -> {
            x.setRegister(0, 1, 100 + Math.abs(word) % 100);
            return x.store(0, 1, word);
        }, (x, word) -> x.value(word));
        says("Returns 1 if the word is poisoned afterwards, otherwise 0;", x -> {
            due("clean to clean", x.store(0, 0, 5), 0);
            x.inject(5);
            due("clean to poisoned", x.store(0, 0, 5), 0);
            poisonRegister(x, 0, 0, 6);
            due("poisoned to clean", x.store(0, 0, 5), 1);
            due("poisoned to poisoned", x.store(0, 0, 5), 1);
            x.setMirror(1, true);
            due("poisoned to a mirrored page", x.store(0, 0, 7), 1);
        });
        noSuchTaskRegisterOrWord((x, a) -> x.store(a, 0, 0), (x, a) -> x.store(0, a, 0), (x, a) -> x.store(0, 0, a));
        says("NOT_POSSIBLE if the task is stopped.", x -> onlyRunning("store", (y, task) -> y.store(task, 3, 31)));
    }

    private void promise13() {
        section("Promise 13");
        says("Stores the lower byte of a register in a byte of a word: the word is fetched;", x -> {
            x.fill(8, 1, 0x1234);
            x.setMirror(2, true);
            x.inject(8);
            x.setRegister(0, 0, 0xABCD);
            due("storeByte", x.storeByte(0, 0, 8, 0), 0);
            due("healed", x.healed(), 1);
            due("origin", x.origin(8), NONE);
            due("value", x.value(8), 0x12CD);
            due("second copy", x.mirrorValue(8), 0x12CD);
        });
        says("then its other byte stays, and this byte becomes the lower byte of the register.", x -> {
            for (int value : new int[] {0, 0x00FF, 0xFF00, 0xFFFF, 0x1234}) {
                for (int stored : new int[] {0, 0x00FF, 0xFF00, 0xFFFF, 0xABCD}) {
                    x.setRegister(0, 0, stored);
                    x.fill(8, 1, value);
                    x.storeByte(0, 0, 8, 0);
                    due("the lower byte", x.value(8), value / 256 * 256 + stored % 256);
                    x.fill(8, 1, value);
                    x.storeByte(0, 0, 8, 1);
                    due("the upper byte", x.value(8), stored % 256 * 256 + value % 256);
                }
            }
            due("the register stays", x.register(0, 0), 0xABCD);
        });
        says("If the register is poisoned, its mark is copied to the word;", x -> {
            poisonWord(x, 5, 96);
            x.load(0, 0, 5);
            x.inject(9);
            x.storeByte(0, 0, 8, 0);
            due("a clean word, its origin", x.origin(8), 0);
            due("its hops", x.hops(8), 98);
            x.storeByte(0, 0, 9, 1);
            due("a word of another poison, its origin", x.origin(9), 0);
            due("its hops", x.hops(9), 98);
            x.move(0, 0, 0);
            x.storeByte(0, 0, 9, 1);
            due("hops of 98", x.hops(9), 99);
            x.move(0, 0, 0);
            x.storeByte(0, 0, 9, 1);
            due("hops of 99", x.hops(9), 99);
        });
        says("otherwise, the word keeps its mark, or stays clean.", x -> {
            poisonWord(x, 8, 99);
            poisonWord(x, 9, 0);
            x.storeByte(0, 0, 8, 0);
            due("the origin", x.origin(8), 0);
            due("99 hops", x.hops(8), 99);
            x.storeByte(0, 0, 9, 1);
            due("the origin", x.origin(9), 1);
            due("0 hops", x.hops(9), 0);
            x.storeByte(0, 0, 10, 1);
            due("a clean word", x.origin(10), NONE);
            x.setMirror(2, true);
            x.storeByte(0, 0, 9, 1);
            due("a poisoned second copy", x.mirrorOrigin(9), 1);
        });
        taskArgument((x, task) -> x.storeByte(task, 0, 9, 0));
        says("`register`: 0 to 3", x -> {
            range("register", 0, 3, NO_SUCH, register -> x.storeByte(2, register, 20, 0));
            for (int register = 0; register < 4; register++) {
                x.setRegister(2, register, 40 + register);
                x.storeByte(2, register, 20 + register, 0);
            }
            for (int register = 0; register < 4; register++) {
                due("the word of register " + register, x.value(20 + register), 40 + register);
            }
        });
        wordArgument((x, word) -> {
            x.setRegister(0, 1, 100 + Math.abs(word) % 100);
            return x.storeByte(0, 1, word, 0);
        }, (x, word) -> x.value(word));
    }

    private void promise13Answers() {
        says("`part`: 0 for the lower byte, 1 for the upper byte", x -> {
            range("part", 0, 1, BAD_VALUE, part -> x.storeByte(0, 0, 5, part));
            x.setRegister(0, 0, 3);
            x.storeByte(0, 0, 5, 0);
            due("part 0", x.value(5), 3);
            x.storeByte(0, 0, 6, 1);
            due("part 1", x.value(6), 768);
        });
        says("Returns 1 if the word is poisoned afterwards, otherwise 0;", x -> {
            due("clean to clean", x.storeByte(0, 0, 5, 0), 0);
            x.inject(5);
            due("clean to poisoned", x.storeByte(0, 0, 5, 0), 1);
            poisonRegister(x, 0, 1, 6);
            due("poisoned to poisoned", x.storeByte(0, 1, 5, 1), 1);
            due("poisoned to clean", x.storeByte(0, 1, 7, 1), 1);
            x.setMirror(2, true);
            x.inject(8);
            due("clean to a word that is healed", x.storeByte(0, 0, 8, 0), 0);
            x.inject(8);
            due("poisoned to a word that is healed", x.storeByte(0, 1, 8, 0), 1);
        });
        noSuchTaskRegisterOrWord((x, a) -> x.storeByte(a, 0, 0, 0), (x, a) -> x.storeByte(0, a, 0, 1),
            (x, a) -> x.storeByte(0, 0, a, 0));
        badPart((x, part) -> x.storeByte(0, 0, 5, part), (x, part) -> x.storeByte(0, 0, 32, part));
        says("NOT_POSSIBLE if the task is stopped.", x -> onlyRunning("storeByte", (y, task) -> y.storeByte(task, 3, 31, 1)));
    }

    private void promise14() {
        section("Promise 14");
        says("Moves a register: the target gets the value of the source, and the mark of the source is copied to the target.",
            x -> {
                x.fill(5, 1, 65535);
                poisonWord(x, 5, 97);
                x.load(1, 3, 5);
                x.move(1, 0, 3);
                due("value", x.register(1, 0), 65535);
                due("origin", x.registerOrigin(1, 0), 0);
                due("hops", x.registerHops(1, 0), 99);
                due("the source keeps its hops", x.registerHops(1, 3), 98);
                x.move(1, 1, 0);
                due("hops of 99", x.registerHops(1, 1), 99);
                x.move(1, 0, 2);
                due("a clean source", x.registerOrigin(1, 0), NONE);
                due("its value", x.register(1, 0), 0);
                due("no use", x.faults(), 0);
            });
        says("(If both are the same register and it is poisoned, it has one hop more afterwards.)", x -> {
            poisonRegister(x, 0, 2, 5);
            for (int hops = 2; hops <= 99; hops++) {
                x.move(0, 2, 2);
                due("hops", x.registerHops(0, 2), hops);
            }
            x.move(0, 2, 2);
            due("99 hops", x.registerHops(0, 2), 99);
            due("origin", x.registerOrigin(0, 2), 0);
            x.setRegister(0, 1, 6);
            due("a clean one", x.move(0, 1, 1), 6);
            due("it is clean", x.registerHops(0, 1), NONE);
        });
        taskArgument((x, task) -> x.move(task, 0, 3));
        says("`target`: 0 to 3", x -> {
            range("target", 0, 3, NO_SUCH, target -> x.move(0, target, 1));
            for (int target = 0; target < 4; target++) {
                PoisonedMemory y = marked();
                y.move(2, target, (target + 1) % 4);
                for (int register = 0; register < 4; register++) {
                    int due = register == target ? (target + 1) % 4 : register;
                    due("register " + register + " of target " + target, y.register(2, register), 620 + due);
                }
            }
        });
        says("`source`: 0 to 3", x -> {
            range("source", 0, 3, NO_SUCH, source -> x.move(0, 1, source));
            PoisonedMemory y = marked();
            for (int source = 0; source < 4; source++) {
                due("source " + source, y.move(3, 1, source), source == 1 ? 630 : 630 + source);
            }
        });
        says("Returns the value;", x -> {
            for (int value : new int[] {0, 1, 65535}) {
                x.fill(5, 1, value);
                x.load(0, 0, 5);
                due("a clean source", x.move(0, 1, 0), value);
                poisonRegister(x, 0, 0, 5);
                due("a poisoned source", x.move(0, 1, 0), value);
                due("onto itself", x.move(0, 0, 0), value);
            }
        });
        says("NO_SUCH if there is no such task or register;", x -> {
            range("task", 0, 3, NO_SUCH, task -> x.move(task, 0, 1));
            range("target", 0, 3, NO_SUCH, target -> x.move(0, target, 1));
            range("source", 0, 3, NO_SUCH, source -> x.move(0, 1, source));
            Check.stop(x, 0);
            due("target 4 comes before NOT_POSSIBLE", x.move(0, 4, 0), NO_SUCH);
            due("source -1 comes before NOT_POSSIBLE", x.move(0, 0, -1), NO_SUCH);
        });
        says("NOT_POSSIBLE if the task is stopped.", x -> onlyRunning("move", (y, task) -> y.move(task, 3, 0)));
    }

    private void promise15() {
        section("Promise 15");
        says("Computes with two registers, which are used (first, then second);", x -> {
            x.setMode(0, SKIP);
            poisonRegister(x, 0, 1, 5);
            poisonRegister(x, 0, 2, 6);
            due("no poisoned one", x.compute(0, SUM, 0, 3, 3), 0);
            due("only the first", x.compute(0, SUM, 0, 1, 3), FAULT);
            due("its register", x.log(0, 1), 1);
            due("only the second", x.compute(0, SUM, 0, 3, 2), FAULT);
            due("its register", x.log(0, 1), 2);
            due("both", x.compute(0, SUM, 0, 2, 1), FAULT);
            due("the first of them", x.log(0, 1), 2);
            due("both", x.compute(0, SUM, 0, 1, 2), FAULT);
            due("the first of them", x.log(0, 1), 1);
            due("a poisoned target", x.compute(0, SUM, 1, 3, 3), 0);
            due("faults", x.faults(), 4);
        });
        says("the target becomes clean with the result modulo 65536.", x -> {
            computed(SUM, 65535, 0, 65535);
            computed(SUM, 65535, 1, 0);
            computed(SUM, 65535, 65535, 65534);
            computed(SUM, 0, 0, 0);
            computed(DIFFERENCE, 0, 0, 0);
            computed(DIFFERENCE, 0, 1, 65535);
            computed(DIFFERENCE, 0, 65535, 1);
            computed(DIFFERENCE, 65535, 0, 65535);
            computed(DIFFERENCE, 65535, 65535, 0);
            computed(XOR, 65535, 65535, 0);
            computed(XOR, 65535, 0, 65535);
            computed(XOR, 0x8001, 0x0001, 0x8000);
            computed(PRODUCT, 65535, 1, 65535);
            computed(PRODUCT, 256, 255, 65280);
            computed(PRODUCT, 256, 256, 0);
            computed(PRODUCT, 257, 255, 65535);
            computed(PRODUCT, 32768, 2, 0);
            computed(PRODUCT, 32769, 65535, 32767);
            computed(PRODUCT, 65535, 65535, 1);
            computed(PRODUCT, 65535, 0, 0);
        });
        says("With the operator 2 and first and second being the same register, the result is 0 and this is not a use.", x -> {
            for (int mode = 0; mode < 3; mode++) {
                PoisonedMemory y = new PoisonedMemory();
                y.setMode(0, mode);
                y.fill(5, 2, 700);
                poisonRegister(y, 0, 1, 5);
                poisonRegister(y, 0, 2, 6);
                y.load(0, 3, 6);
                due("result", y.compute(0, XOR, 3, 1, 1), 0);
                due("target", y.register(0, 3), 0);
                due("it is clean", y.registerOrigin(0, 3), NONE);
                due("the register stays", y.register(0, 1), 700);
                due("it stays poisoned", y.registerOrigin(0, 1), 0);
                due("onto itself", y.compute(0, XOR, 1, 1, 1), 0);
                due("it is clean", y.registerOrigin(0, 1), NONE);
                due("faults", y.faults(), 0);
                y.load(0, 1, 5);
                due("two registers of the same value", y.compute(0, XOR, 3, 1, 2), mode == ZERO ? 0 : FAULT);
                due("faults", y.faults(), 1);
            }
            for (int operator : new int[] {SUM, DIFFERENCE, PRODUCT}) {
                PoisonedMemory y = new PoisonedMemory();
                poisonRegister(y, 0, 1, 5);
                due("operator " + operator + " with the same register twice", y.compute(0, operator, 3, 1, 1), FAULT);
            }
        });
    }

    private void computed(int operator, int first, int second, int result) {
        PoisonedMemory x = new PoisonedMemory();
        poisonRegister(x, 2, 0, 5);
        x.setRegister(2, 1, first);
        x.setRegister(2, 3, second);
        String call = "operator " + operator + ", " + first + ", " + second;
        due(call, x.compute(2, operator, 0, 1, 3), result);
        due(call + ": the target", x.register(2, 0), result);
        due(call + ": it is clean", x.registerOrigin(2, 0), NONE);
        due(call + ": the target is the first", x.compute(2, operator, 1, 1, 3), result);
        x.setRegister(2, 1, first);
        due(call + ": the target is the second", x.compute(2, operator, 3, 1, 3), result);
    }

    private void promise15Arguments() {
        taskArgument((x, task) -> x.compute(task, PRODUCT, 0, 1, 2));
        says("`operator`: 0 for the sum, 1 for the difference first - second, 2 for the bitwise exclusive or, 3 for the "
            + "product", x -> {
            range("operator", 0, 3, BAD_VALUE, operator -> x.compute(0, operator, 0, 1, 2));
            x.setRegister(0, 1, 12);
            x.setRegister(0, 2, 10);
            due("0", x.compute(0, 0, 0, 1, 2), 22);
            due("1", x.compute(0, 1, 0, 1, 2), 2);
            due("2", x.compute(0, 2, 0, 1, 2), 6);
            due("3", x.compute(0, 3, 0, 1, 2), 120);
        });
        says("`target`: 0 to 3", x -> {
            range("target", 0, 3, NO_SUCH, target -> x.compute(0, SUM, target, 0, 0));
            for (int target = 0; target < 4; target++) {
                PoisonedMemory y = marked();
                y.compute(2, SUM, target, 0, 0);
                for (int register = 0; register < 4; register++) {
                    due("register " + register, y.register(2, register), register == target ? 1240 : 620 + register);
                }
            }
        });
        says("`first`: 0 to 3", x -> {
            range("first", 0, 3, NO_SUCH, first -> x.compute(0, SUM, 0, first, 1));
            for (int first = 0; first < 4; first++) {
                due("first " + first, marked().compute(3, DIFFERENCE, 0, first, 0), first);
            }
        });
        says("`second`: 0 to 3", x -> {
            range("second", 0, 3, NO_SUCH, second -> x.compute(0, SUM, 0, 1, second));
            for (int second = 0; second < 4; second++) {
                due("second " + second, marked().compute(3, DIFFERENCE, 0, 3, second), 3 - second);
            }
        });
    }

    private void promise15Answers() {
        says("Returns the result;", x -> {
            x.setRegister(0, 0, 65535);
            due("the least", x.compute(0, DIFFERENCE, 1, 0, 0), 0);
            due("the greatest", x.compute(0, SUM, 1, 0, 1), 65535);
            x.setMode(1, ZERO);
            poisonRegister(x, 1, 0, 5);
            x.setRegister(1, 1, 9);
            due("after a fault, the operation is done", x.compute(1, SUM, 2, 0, 1), 9);
        });
        says("FAULT if there was a fault and the operation was not done;", x -> {
            for (int mode = 0; mode < 3; mode++) {
                PoisonedMemory y = new PoisonedMemory();
                y.fill(5, 1, 30);
                y.setMode(0, mode);
                y.setRegister(0, 3, 4);
                due("no fault", y.compute(0, SUM, 2, 3, 3), 8);
                poisonRegister(y, 0, 0, 5);
                due("a fault in mode " + mode, y.compute(0, PRODUCT, 2, 0, 3), mode == ZERO ? 0 : FAULT);
                due("the target", y.register(0, 2), mode == ZERO ? 0 : 8);
                due("faults", y.faults(), 1);
            }
        });
        says("NO_SUCH if there is no such task or register;", x -> {
            range("task", 0, 3, NO_SUCH, task -> x.compute(task, SUM, 0, 1, 2));
            range("target", 0, 3, NO_SUCH, target -> x.compute(0, SUM, target, 1, 2));
            range("first", 0, 3, NO_SUCH, first -> x.compute(0, SUM, 0, first, 2));
            range("second", 0, 3, NO_SUCH, second -> x.compute(0, SUM, 0, 1, second));
            due("first and second are the same, which there is not", x.compute(0, XOR, 0, 4, 4), NO_SUCH);
            due("first and second are the same, which there is not", x.compute(0, XOR, 0, -1, -1), NO_SUCH);
            due("task 4 comes before the operator", x.compute(4, 4, 0, 1, 2), NO_SUCH);
            due("second 4 comes before the operator", x.compute(0, -1, 0, 1, 4), NO_SUCH);
        });
        says("BAD_VALUE if operator is out of range;", x -> {
            range("operator", 0, 3, BAD_VALUE, operator -> x.compute(0, operator, 0, 1, 2));
            poisonRegister(x, 1, 1, 5);
            due("operator 4 is no use", x.compute(1, 4, 0, 1, 1), BAD_VALUE);
            due("faults", x.faults(), 0);
            Check.stop(x, 0);
            due("operator 4 comes before NOT_POSSIBLE", x.compute(0, 4, 0, 1, 1), BAD_VALUE);
            due("operator -1 comes before NOT_POSSIBLE", x.compute(0, -1, 0, 1, 1), BAD_VALUE);
        });
        says("NOT_POSSIBLE if the task is stopped.", x -> {
            onlyRunning("compute", (y, task) -> y.compute(task, SUM, 3, 1, 2));
            onlyRunning("compute without a use", (y, task) -> y.compute(task, XOR, 3, 1, 1));
        });
    }

    private void promise16() {
        section("Promise 16");
        says("Loads the word whose number is the value of a register modulo 32, as load does it;", x -> {
            for (int word = 0; word < 32; word++) {
                x.fill(word, 1, 100 + word);
            }
            for (int address : new int[] {0, 1, 30, 31, 32, 33, 63, 64, 65503, 65504, 65534, 65535}) {
                x.setRegister(0, 1, address);
                due("address " + address, x.loadAt(0, 2, 1), 100 + address % 32);
                due("target", x.register(0, 2), 100 + address % 32);
                due("the address stays", x.register(0, 1), address);
            }
            poisonWord(x, 31, 98);
            x.loadAt(0, 2, 1);
            due("origin", x.registerOrigin(0, 2), 0);
            due("hops", x.registerHops(0, 2), 99);
            x.setMirror(2, true);
            x.inject(8);
            x.setRegister(0, 1, 40);
            due("a healed word", x.loadAt(0, 2, 1), 108);
            due("origin", x.registerOrigin(0, 2), NONE);
            due("healed", x.healed(), 1);
        });
        says("the register with the number is used.", x -> {
            x.setMode(0, SKIP);
            x.fill(5, 1, 9);
            poisonRegister(x, 0, 1, 5);
            x.load(0, 2, 5);
            due("a poisoned target is not used", x.loadAt(0, 2, 0), 0);
            due("faults", x.faults(), 0);
            due("a poisoned address", x.loadAt(0, 2, 1), FAULT);
            due("faults", x.faults(), 1);
            due("its register", x.log(0, 1), 1);
            due("it is the target too", x.loadAt(0, 1, 1), FAULT);
            due("it stays", x.register(0, 1), 9);
            x.setMode(0, ZERO);
            x.fill(0, 1, 33);
            due("in mode 2 the word 0 is loaded", x.loadAt(0, 1, 1), 33);
            due("into the address itself", x.register(0, 1), 33);
            due("which is clean", x.registerOrigin(0, 1), NONE);
            due("faults", x.faults(), 3);
        });
        taskArgument((x, task) -> x.loadAt(task, 0, 3));
        says("`target`: 0 to 3", x -> {
            range("target", 0, 3, NO_SUCH, target -> x.loadAt(0, target, 3));
            for (int target = 0; target < 4; target++) {
                PoisonedMemory y = marked();
                y.setRegister(2, (target + 1) % 4, 5);
                y.loadAt(2, target, (target + 1) % 4);
                due("target " + target, y.register(2, target), 7777);
                due("the next", y.register(2, (target + 1) % 4), 5);
                due("the one behind", y.register(2, (target + 2) % 4), 620 + (target + 2) % 4);
            }
        });
        says("`address`: 0 to 3: the register with the number of the word", x -> {
            range("address", 0, 3, NO_SUCH, address -> x.loadAt(0, 0, address));
            for (int word = 0; word < 4; word++) {
                x.fill(word, 1, 50 + word);
                x.setRegister(1, word, word);
            }
            for (int address = 3; address >= 0; address--) {
                due("address " + address, x.loadAt(1, 3, address), 50 + address);
            }
        });
    }

    private void promise16Answers() {
        says("Returns the value;", x -> {
            for (int value : new int[] {0, 1, 65535}) {
                x.fill(0, 1, value);
                due("a clean word", x.loadAt(1, 0, 1), value);
                x.inject(0);
                due("a poisoned word", x.loadAt(1, 0, 1), value);
            }
        });
        says("FAULT if there was a fault and the operation was not done;", x -> {
            for (int mode = 0; mode < 3; mode++) {
                PoisonedMemory y = new PoisonedMemory();
                y.setMode(0, mode);
                y.fill(0, 1, 20);
                y.fill(5, 1, 5);
                due("no fault", y.loadAt(0, 2, 1), 20);
                poisonRegister(y, 0, 1, 5);
                due("a fault in mode " + mode, y.loadAt(0, 3, 1), mode == ZERO ? 20 : FAULT);
                due("the target", y.register(0, 3), mode == ZERO ? 20 : 0);
                due("faults", y.faults(), 1);
            }
            x.inject(0);
            due("a poisoned word alone is no fault", x.loadAt(0, 1, 1), 0);
            due("the address is poisoned now", x.loadAt(0, 0, 1), FAULT);
        });
        says("NO_SUCH if there is no such task or register;", x -> {
            range("task", 0, 3, NO_SUCH, task -> x.loadAt(task, 0, 1));
            range("target", 0, 3, NO_SUCH, target -> x.loadAt(0, target, 1));
            range("address", 0, 3, NO_SUCH, address -> x.loadAt(0, 0, address));
            Check.stop(x, 0);
            due("target 4 comes before NOT_POSSIBLE", x.loadAt(0, 4, 1), NO_SUCH);
            due("address 4 comes before NOT_POSSIBLE", x.loadAt(0, 1, 4), NO_SUCH);
        });
        says("NOT_POSSIBLE if the task is stopped.", x -> {
            onlyRunning("loadAt", (y, task) -> y.loadAt(task, 3, 2));
            Check.stop(x, 0);
            due("a poisoned address is no further fault", x.loadAt(0, 3, 0), NOT_POSSIBLE);
            due("faults", x.faults(), 1);
        });
    }

    private void promise17() {
        section("Promise 17");
        says("Outputs a register, which is used.", x -> {
            x.setMode(0, SKIP);
            due("a clean one", x.output(0, 2), 0);
            due("faults", x.faults(), 0);
            poisonRegister(x, 0, 2, 5);
            due("a poisoned one", x.output(0, 2), FAULT);
            due("faults", x.faults(), 1);
            due("another one of the task", x.output(0, 1), 0);
            due("the same one of another task", x.output(1, 2), 0);
            due("faults", x.faults(), 1);
            due("the register keeps its hops", x.registerHops(0, 2), 1);
        });
        taskArgument((x, task) -> x.output(task, 0));
        says("`register`: 0 to 3", x -> {
            range("register", 0, 3, NO_SUCH, register -> x.output(0, register));
            for (int register = 0; register < 4; register++) {
                due("register " + register, marked().output(3, register), 630 + register);
            }
        });
        says("Returns the value;", x -> {
            for (int value : new int[] {0, 1, 65534, 65535}) {
                x.setRegister(0, 0, value);
                due("output", x.output(0, 0), value);
            }
            x.setMode(0, ZERO);
            x.fill(5, 1, 44);
            poisonRegister(x, 0, 0, 5);
            due("0 in mode 2, after a fault", x.output(0, 0), 0);
            due("without a fault", x.output(0, 0), 0);
            due("faults", x.faults(), 1);
        });
        says("FAULT if there was a fault and the operation was not done;", x -> {
            for (int mode = 0; mode < 3; mode++) {
                PoisonedMemory y = new PoisonedMemory();
                y.setMode(0, mode);
                due("no fault", y.output(0, 1), 0);
                poisonRegister(y, 0, 1, 5);
                due("a fault in mode " + mode, y.output(0, 1), mode == ZERO ? 0 : FAULT);
                due("again", y.output(0, 1), mode == STOP ? NOT_POSSIBLE : mode == SKIP ? FAULT : 0);
            }
        });
        says("NO_SUCH if there is no such task or register;", x -> {
            range("task", 0, 3, NO_SUCH, task -> x.output(task, 0));
            range("register", 0, 3, NO_SUCH, register -> x.output(0, register));
            due("task 1, register -1, is not the register before", x.output(1, -1), NO_SUCH);
            Check.stop(x, 0);
            due("register 4 comes before NOT_POSSIBLE", x.output(0, 4), NO_SUCH);
        });
        says("NOT_POSSIBLE if the task is stopped.", x -> {
            onlyRunning("output", (y, task) -> y.output(task, 3));
            Check.stop(x, 0);
            due("a poisoned register is no further fault", x.output(0, 0), NOT_POSSIBLE);
            due("faults", x.faults(), 1);
        });
    }
}
