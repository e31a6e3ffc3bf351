/** The sentences of "What it is", "Memory and marks", "Mirrors" and "Tasks and faults". */
final class BoundaryTerms extends Boundary {
    private static final String[] COPIERS = {"load", "loadByte", "loadAt", "copyBlock", "move", "store", "storeByte"};
    private static final String[] FETCHERS = {"load", "loadByte", "loadAt", "copyBlock", "storeByte", "scrub"};
    private static final String[] WRITERS = {"store", "storeByte", "copyBlock", "fill"};
    private static final String[] USES = {"compute first", "compute second", "loadAt", "output"};

    BoundaryTerms(Sentences document) {
        super(document);
    }

    @Override
    void all() {
        whatItIs();
        memory();
        marks();
        mirrors();
        fetching();
        tasks();
        faults();
        modes();
        log();
    }

    private void whatItIs() {
        section("What it is");
        plain("A memory with poison: words that cannot be trusted carry a mark that travels with every copy until a task "
            + "uses them; tasks with registers, loads and stores of words and bytes, block copies, arithmetic that is a "
            + "use, three ways to handle a fault, pages with a mirror, scrubbing, a log of faults, and questions about "
            + "where a poison came from and how far it has spread.");
        says("An object is used for at most 512 calls after it has been made; what later calls answer is free.", x -> {
            for (int call = 1; call <= 510; call++) {
                due("setRegister, call " + call, x.setRegister(0, 0, call), call - 1);
            }
            due("the 511th call", x.undo(), 3);
            due("the 512th call", x.register(0, 0), 509);
        });
    }

    private void memory() {
        section("Memory and marks");
        says("The memory has 32 words, 0 to 31;", x -> {
            for (int word = 0; word < 32; word++) {
                due("fill(" + word + ", 1, ..)", x.fill(word, 1, 100 + word), 0);
            }
            for (int word = 0; word < 32; word++) {
                due("value(" + word + ")", x.value(word), 100 + word);
            }
            range("value", 0, 31, NO_SUCH, x::value);
        });
        says("a word has a value from 0 to 65535 (0 at first).", x -> {
            due("value(0) at first", x.value(0), 0);
            due("value(31) at first", x.value(31), 0);
            for (int value : new int[] {65535, 65534, 1, 0}) {
                x.fill(0, 1, value);
                due("value(0)", x.value(0), value);
            }
            x.fill(0, 1, 7);
            due("fill(0, 1, 65536)", x.fill(0, 1, 65536), BAD_VALUE);
            due("fill(0, 1, -1)", x.fill(0, 1, -1), BAD_VALUE);
            due("value(0)", x.value(0), 7);
        });
        says("The byte 0 of a value is its lower byte (the value modulo 256), the byte 1 its upper byte.", x -> {
            for (int value : new int[] {0, 1, 255, 256, 257, 511, 512, 32767, 32768, 65279, 65280, 65534, 65535}) {
                x.fill(9, 1, value);
                due("the byte 0 of " + value, x.loadByte(0, 0, 9, 0), value % 256);
                due("the byte 1 of " + value, x.loadByte(0, 0, 9, 1), value / 256);
            }
        });
        says("The page p, 0 to 7, consists of the words 4 * p to 4 * p + 3.", x -> {
            range("poisoned", 0, 7, NO_SUCH, x::poisoned);
            for (int page = 0; page < 8; page++) {
                PoisonedMemory y = new PoisonedMemory();
                y.setMirror(page, true);
                for (int word = 0; word < 32; word++) {
                    boolean isInside = word >= 4 * page && word <= 4 * page + 3;
                    due("page " + page + ", mirrorValue(" + word + ")", y.mirrorValue(word), isInside ? 0 : NONE);
                }
            }
        });
        plain("A word or a register can be poisoned; then it has a mark, which consists of an origin and a number of hops.");
        says("Otherwise it is clean (at first, all are clean).", this::allAreCleanAtFirst);
        plain("The origin is the number of an injection.");
        says("There are at most 20 injections, numbered from 0.", x -> {
            for (int i = 0; i < 20; i++) {
                due("injection " + i, x.inject(31 - i), i);
            }
            due("the 21st injection", x.inject(0), TOO_MANY);
            due("injections", x.injections(), 20);
            due("word 0", x.origin(0), NONE);
        });
    }

    private void allAreCleanAtFirst(PoisonedMemory x) {
        for (int word = 0; word < 32; word++) {
            due("origin(" + word + ")", x.origin(word), NONE);
            due("hops(" + word + ")", x.hops(word), NONE);
        }
        for (int task = 0; task < 4; task++) {
            for (int register = 0; register < 4; register++) {
                due("registerOrigin", x.registerOrigin(task, register), NONE);
                due("registerHops", x.registerHops(task, register), NONE);
            }
        }
        poisonRegister(x, 3, 3, 31);
        due("an origin 0 is a mark", x.origin(31), 0);
        due("hops 0 are a mark", x.hops(31), 0);
        due("a poisoned register", x.registerOrigin(3, 3), 0);
    }

    private void marks() {
        says("When a word is injected, it becomes poisoned with a new origin and 0 hops, whatever it was before;", x -> {
            due("a clean word", x.inject(3), 0);
            due("its hops", x.hops(3), 0);
            due("one with 0 hops", x.inject(3), 1);
            due("its origin", x.origin(3), 1);
            due("its hops", x.hops(3), 0);
            poisonWord(x, 4, 99);
            due("hops before", x.hops(4), 99);
            due("one with 99 hops", x.inject(4), 3);
            due("its origin", x.origin(4), 3);
            due("its hops", x.hops(4), 0);
        });
        says("its value stays.", x -> {
            for (int value : new int[] {0, 1, 65535}) {
                x.fill(3, 1, value);
                x.inject(3);
                due("value", x.value(3), value);
            }
            due("not with a second copy either", x.setMirror(0, true), 1);
            x.inject(3);
            due("value", x.value(3), 65535);
        });
        says("To copy a mark means: a poisoned source gives the target the same origin and one hop more (but not more "
            + "than 99 hops);", x -> {
            for (String copier : COPIERS) {
                for (int hops : new int[] {1, 2, 97, 98, 99}) {
                    due(copier + " of " + hops + " hops", hopsOfCopy(copier, hops), Math.min(hops + 1, 99));
                }
            }
            due("load of 0 hops", hopsOfCopy("load", 0), 1);
            due("copyBlock of 0 hops", hopsOfCopy("copyBlock", 0), 1);
        });
        says("a clean source makes the target clean.", x -> {
            for (String copier : COPIERS) {
                // The document makes an exception of storeByte: a clean register leaves the mark of the word.
                boolean isLeft = copier.equals("storeByte");
                PoisonedMemory y = new PoisonedMemory();
                y.fill(9, 1, 20);
                y.inject(20);
                poisonRegister(y, 0, 0, 21);
                int hops = copy(y, copier, 9, 1);
                due(copier + " of a clean source", hops, isLeft ? 0 : NONE);
            }
        });
    }

    /** The hops of the copy of a word or a register that has so many, with the origin 1; NO_SUCH for another origin. */
    private int hopsOfCopy(String copier, int hops) {
        PoisonedMemory x = new PoisonedMemory();
        x.inject(30);
        boolean isOfRegister = copier.equals("move") || copier.startsWith("store");
        x.fill(8, 1, 8);
        poisonWord(x, 8, isOfRegister ? hops - 1 : hops);
        if (isOfRegister) {
            x.load(0, 1, 8);
        } else {
            x.setRegister(0, 1, 8);
        }
        int answer = copy(x, copier, 8, 1);
        boolean isWord = copier.startsWith("store") || copier.equals("copyBlock");
        int origin = isWord ? x.origin(20) : x.registerOrigin(0, 0);
        return origin == 1 ? answer : NO_SUCH;
    }

    /** Copies a word, or the register, to the register 0 or to the word 20, and answers the hops of the copy. */
    private static int copy(PoisonedMemory x, String copier, int word, int register) {
        switch (copier) {
            case "load":
                x.load(0, 0, word);
                return x.registerHops(0, 0);
            case "loadByte":
                x.loadByte(0, 0, word, 1);
                return x.registerHops(0, 0);
            case "loadAt":
                x.loadAt(0, 0, register);
                return x.registerHops(0, 0);
            case "move":
                x.move(0, 0, register);
                return x.registerHops(0, 0);
            case "copyBlock":
                x.copyBlock(word, 20, 1);
                return x.hops(20);
            case "store":
                x.store(0, register, 20);
                return x.hops(20);
            default:
                x.storeByte(0, register, 20, 0);
                return x.hops(20);
        }
    }

    private void mirrors() {
        section("Mirrors");
        says("A page is mirrored or not (not at first).", x -> {
            for (int word = 0; word < 32; word++) {
                due("mirrorValue(" + word + ") at first", x.mirrorValue(word), NONE);
            }
            due("the first mirrored page", x.setMirror(7, true), 1);
            due("mirrorValue(31)", x.mirrorValue(31), 0);
            due("no longer", x.setMirror(7, false), 0);
            due("mirrorValue(31)", x.mirrorValue(31), NONE);
        });
        says("Each word of a mirrored page has a second copy with a value and a mark.", x -> {
            x.fill(11, 6, 5);
            poisonWord(x, 11, 0);
            poisonWord(x, 12, 0);
            poisonWord(x, 15, 0);
            poisonWord(x, 16, 0);
            x.setMirror(3, true);
            for (int word = 11; word <= 16; word++) {
                boolean isInside = word >= 12 && word <= 15;
                int origin = word == 12 ? 1 : word == 15 ? 2 : NONE;
                due("mirrorValue(" + word + ")", x.mirrorValue(word), isInside ? 5 : NONE);
                due("mirrorOrigin(" + word + ")", x.mirrorOrigin(word), isInside ? origin : NONE);
            }
        });
        says("When a page becomes mirrored, the second copies become equal to the words, with their marks.", x -> {
            x.fill(0, 1, 65535);
            x.fill(3, 1, 1);
            poisonWord(x, 3, 5);
            x.setMirror(0, true);
            due("mirrorValue(0)", x.mirrorValue(0), 65535);
            due("mirrorOrigin(0)", x.mirrorOrigin(0), NONE);
            due("mirrorValue(3)", x.mirrorValue(3), 1);
            due("mirrorOrigin(3)", x.mirrorOrigin(3), 0);
            due("the word keeps its hops", x.hops(3), 5);
            x.setMirror(0, false);
            x.fill(0, 4, 9);
            x.inject(0);
            x.setMirror(0, true);
            due("mirrorValue(0), mirrored again", x.mirrorValue(0), 9);
            due("mirrorOrigin(0), mirrored again", x.mirrorOrigin(0), 1);
            due("mirrorOrigin(3), mirrored again", x.mirrorOrigin(3), NONE);
        });
        says("When a word of a mirrored page is written (by store, storeByte, copyBlock or fill), its second copy becomes "
            + "equal to the word, with its mark.", x -> {
            for (String writer : WRITERS) {
                for (int word = 11; word <= 16; word++) {
                    writtenWord(writer, word);
                }
            }
        });
        says("An injection does not change the second copy.", x -> {
            x.fill(4, 4, 70);
            x.setMirror(1, true);
            x.inject(4);
            due("a clean second copy", x.mirrorOrigin(4), NONE);
            due("its value", x.mirrorValue(4), 70);
            x.setMirror(1, true);
            due("a poisoned second copy", x.mirrorOrigin(4), 0);
            x.inject(4);
            due("after one more injection", x.mirrorOrigin(4), 0);
            type(x, "I7");
            x.run();
            due("by run", x.mirrorOrigin(7), NONE);
        });
    }

    /** Page 3, the words 12 to 15, is mirrored. */
    private void writtenWord(String writer, int word) {
        boolean isInside = word >= 12 && word <= 15;
        for (boolean isPoisoned : new boolean[] {true, false}) {
            PoisonedMemory x = new PoisonedMemory();
            x.fill(8, 12, 1000);
            x.inject(word);
            x.setMirror(3, true);
            x.fill(30, 1, 77);
            x.load(0, 0, 30);
            if (isPoisoned) {
                poisonRegister(x, 0, 0, 30);
            }
            write(x, writer, word);
            boolean isMarked = isPoisoned && !writer.equals("fill");
            // A clean register leaves the mark of the word that it stores a byte in, in both copies.
            int origin = isMarked ? 1 : writer.equals("storeByte") ? 0 : NONE;
            int value = writer.equals("storeByte") ? 1000 / 256 * 256 + 77 : 77;
            String what = writer + " of word " + word + (isPoisoned ? ", poisoned: " : ", clean: ");
            due(what + "value", x.value(word), value);
            due(what + "origin", x.origin(word), origin);
            due(what + "mirrorValue", x.mirrorValue(word), isInside ? value : NONE);
            due(what + "mirrorOrigin", x.mirrorOrigin(word), isInside ? origin : NONE);
            due(what + "nothing is left to heal", x.scrub(3), 0);
        }
    }

    private static void write(PoisonedMemory x, String writer, int word) {
        switch (writer) {
            case "store":
                x.store(0, 0, word);
                break;
            case "storeByte":
                x.storeByte(0, 0, word, 0);
                break;
            case "copyBlock":
                x.copyBlock(30, word, 1);
                break;
            default:
                x.fill(word, 1, 77);
                break;
        }
    }

    private void fetching() {
        says("To fetch a word means: if the word is poisoned, its page is mirrored, and the second copy is clean, the word "
            + "is healed first, that is, it becomes equal to the second copy.", x -> {
            for (String fetcher : FETCHERS) {
                for (int word : new int[] {4, 7}) {
                    due(fetcher + ": poisoned, mirrored, a clean second copy", fetched(fetcher, word, true, true, true), 1);
                    due(fetcher + ": a clean word", fetched(fetcher, word, false, true, true), 0);
                    due(fetcher + ": no mirror", fetched(fetcher, word, true, false, true), 0);
                    due(fetcher + ": a poisoned second copy", fetched(fetcher, word, true, true, false), 0);
                }
            }
            x.fill(4, 1, 5000);
            x.setMirror(1, true);
            poisonWord(x, 4, 0);
            x.scrub(1);
            due("the value of the second copy", x.value(4), 5000);
            due("its mark", x.hops(4), NONE);
        });
        says("Then its value and its mark are read.", x -> {
            x.fill(4, 1, 5000);
            x.setMirror(1, true);
            x.inject(4);
            due("a healed word, its value", x.load(0, 0, 4), 5000);
            due("a healed word, its mark", x.registerOrigin(0, 0), NONE);
            x.inject(4);
            x.setMirror(1, true);
            due("one that is not healed, its value", x.load(0, 0, 4), 5000);
            due("one that is not healed, its mark", x.registerOrigin(0, 0), 1);
            due("and its hops", x.registerHops(0, 0), 1);
        });
    }

    /** How many words are healed by fetching this one of page 1; the word must be clean if one is. */
    private int fetched(String fetcher, int word, boolean isPoisoned, boolean isMirrored, boolean isSecondClean) {
        PoisonedMemory x = new PoisonedMemory();
        x.setRegister(0, 1, word);
        if (isPoisoned && !isSecondClean) {
            x.inject(word);
        }
        x.setMirror(1, isMirrored);
        if (isPoisoned && isSecondClean) {
            x.inject(word);
        }
        fetch(x, fetcher, word);
        due(fetcher + ": the word's origin", x.origin(word), isPoisoned && x.healed() == 0 ? 0 : NONE);
        return x.healed();
    }

    private static void fetch(PoisonedMemory x, String fetcher, int word) {
        switch (fetcher) {
            case "load":
                x.load(0, 0, word);
                break;
            case "loadByte":
                x.loadByte(0, 0, word, 1);
                break;
            case "loadAt":
                x.loadAt(0, 0, 1);
                break;
            case "copyBlock":
                x.copyBlock(word, 20, 1);
                break;
            case "storeByte":
                x.storeByte(0, 2, word, 1);
                break;
            default:
                x.scrub(word / 4);
                break;
        }
    }

    private void tasks() {
        section("Tasks and faults");
        says("There are four tasks, 0 to 3.", x -> {
            for (int task = 0; task < 4; task++) {
                due("setRegister of task " + task, x.setRegister(task, 0, 50 + task), 0);
            }
            for (int task = 0; task < 4; task++) {
                due("register of task " + task, x.register(task, 0), 50 + task);
            }
            range("task", 0, 3, NO_SUCH, x::mode);
        });
        says("Each task has four registers, 0 to 3,", x -> {
            for (int task = 0; task < 4; task++) {
                for (int register = 0; register < 4; register++) {
                    due("setRegister", x.setRegister(task, register, 10 * task + register + 1), 0);
                }
            }
            for (int task = 0; task < 4; task++) {
                for (int register = 0; register < 4; register++) {
                    due("register", x.register(task, register), 10 * task + register + 1);
                }
                int one = task;
                range("register", 0, 3, NO_SUCH, register -> x.register(one, register));
            }
        });
        says("each with a value from 0 to 65535 (0 at first),", x -> {
            due("at first", x.register(3, 3), 0);
            for (int value : new int[] {65535, 65534, 1, 0}) {
                x.setRegister(3, 3, value);
                due("register", x.register(3, 3), value);
            }
            due("65536", x.setRegister(3, 3, 65536), BAD_VALUE);
            due("-1", x.setRegister(3, 3, -1), BAD_VALUE);
            x.setRegister(3, 0, 65535);
            x.setRegister(3, 1, 1);
            due("a sum beyond 65535", x.compute(3, SUM, 2, 0, 1), 0);
            due("a difference below 0", x.compute(3, DIFFERENCE, 2, 2, 1), 65535);
            due("register", x.register(3, 2), 65535);
        });
        says("and a mode: 0 (stop; at first), 1 (skip) or 2 (zero).", x -> {
            for (int task = 0; task < 4; task++) {
                int one = task;
                due("at first", x.mode(task), STOP);
                range("mode", 0, 2, BAD_VALUE, mode -> x.setMode(one, mode));
                due("the last that was accepted", x.mode(task), ZERO);
            }
        });
        says("A task is running (at first) or stopped.", x -> {
            for (int task = 0; task < 4; task++) {
                due("at first", x.stopped(task), 0);
            }
            Check.stop(x, 3);
            due("after a fault", x.stopped(3), 1);
            due("another one", x.stopped(2), 0);
        });
    }

    private void faults() {
        says("Some operations are a use of registers.", x -> {
            poisonRegister(x, 0, 0, 5);
            x.move(0, 1, 0);
            x.store(0, 0, 6);
            x.storeByte(0, 0, 7, 1);
            x.load(0, 0, 6);
            x.loadByte(0, 0, 6, 0);
            x.setRegister(0, 0, 1);
            due("none of these is a use", x.faults(), 0);
            due("the task is running", x.stopped(0), 0);
        });
        says("If a register that is used is poisoned, there is a fault;", x -> {
            for (String use : USES) {
                due(use + " of a clean register", faultsOf(use, false), 0);
                due(use + " of a poisoned register", faultsOf(use, true), 1);
            }
            poisonRegister(x, 0, 3, 5);
            x.compute(0, SUM, 3, 0, 1);
            poisonRegister(x, 0, 3, 5);
            x.loadAt(0, 3, 0);
            due("a poisoned target is not used", x.faults(), 0);
        });
        says("the register of the fault is the first poisoned one in the order in which the operation names the registers "
            + "that it uses.", x -> {
            x.setMode(2, SKIP);
            poisonRegister(x, 2, 1, 5);
            poisonRegister(x, 2, 3, 6);
            int[] firsts = {3, 1, 3, 0, 1, 0, 3, 1};
            int[] seconds = {1, 3, 0, 3, 0, 1, 3, 1};
            int[] registers = {3, 1, 3, 3, 1, 1, 3, 1};
            for (int i = 0; i < firsts.length; i++) {
                x.compute(2, SUM, 0, firsts[i], seconds[i]);
                due("first " + firsts[i] + ", second " + seconds[i], x.log(0, 1), registers[i]);
                due("its origin", x.log(0, 2), registers[i] == 1 ? 0 : 1);
            }
            due("faults", x.faults(), firsts.length);
        });
        says("The fault is put into the log with its task, its register and the origin of the mark.", x -> {
            x.inject(9);
            for (int task = 0; task < 4; task++) {
                poisonRegister(x, task, 3 - task, 5);
                x.output(task, 3 - task);
                due("task", x.log(0, 0), task);
                due("register", x.log(0, 1), 3 - task);
                due("origin", x.log(0, 2), task + 1);
            }
            x.setMode(0, ZERO);
            x.restart(0);
            poisonRegister(x, 0, 2, 5);
            x.output(0, 2);
            due("the origin, though the register is clean now", x.log(0, 2), 5);
        });
    }

    private static int use(PoisonedMemory x, String use, int register) {
        switch (use) {
            case "compute first":
                return x.compute(0, SUM, 3, register, 2);
            case "compute second":
                return x.compute(0, SUM, 3, 2, register);
            case "loadAt":
                return x.loadAt(0, 3, register);
            default:
                return x.output(0, register);
        }
    }

    private static int faultsOf(String use, boolean isPoisoned) {
        PoisonedMemory x = new PoisonedMemory();
        if (isPoisoned) {
            poisonRegister(x, 0, 1, 9);
        }
        int answer = use(x, use, 1);
        return (answer == FAULT) == isPoisoned ? x.faults() : NO_SUCH;
    }

    private void modes() {
        plain("Then, by the mode of the task:");
        says("0: the operation is not done, and the task is stopped.", x -> {
            for (String use : USES) {
                PoisonedMemory y = faulty(STOP);
                due(use, use(y, use, 1), FAULT);
                due(use + ": the target", y.register(0, 3), 40);
                due(use + ": the register stays", y.register(0, 1), 8);
                due(use + ": it stays poisoned", y.registerOrigin(0, 1), 0);
                due(use + ": nothing is fetched", y.healed(), 0);
                due(use + ": stopped", y.stopped(0), 1);
                due(use + ": another task", y.stopped(1), 0);
            }
        });
        says("1: the operation is not done.", x -> {
            for (String use : USES) {
                PoisonedMemory y = faulty(SKIP);
                due(use, use(y, use, 1), FAULT);
                due(use + ": the target", y.register(0, 3), 40);
                due(use + ": the register stays", y.register(0, 1), 8);
                due(use + ": it stays poisoned", y.registerOrigin(0, 1), 0);
                due(use + ": nothing is fetched", y.healed(), 0);
                due(use + ": running", y.stopped(0), 0);
            }
        });
        says("2: each poisoned register that is used becomes clean with the value 0, and then the operation is done.", x -> {
            int[] answers = {2, 2, 300, 0};
            for (int i = 0; i < USES.length; i++) {
                PoisonedMemory y = faulty(ZERO);
                due(USES[i], use(y, USES[i], 1), answers[i]);
                due(USES[i] + ": the target", y.register(0, 3), USES[i].equals("output") ? 40 : answers[i]);
                due(USES[i] + ": the register", y.register(0, 1), 0);
                due(USES[i] + ": it is clean", y.registerOrigin(0, 1), NONE);
                due(USES[i] + ": a clean one stays", y.register(0, 2), 2);
                due(USES[i] + ": running", y.stopped(0), 0);
            }
            PoisonedMemory y = faulty(ZERO);
            y.load(0, 2, 8);
            y.load(0, 3, 8);
            due("both are poisoned", y.compute(0, SUM, 0, 1, 2), 0);
            due("the first", y.registerOrigin(0, 1), NONE);
            due("the second", y.registerOrigin(0, 2), NONE);
            due("the second, its value", y.register(0, 2), 0);
            due("one that is not used", y.registerOrigin(0, 3), 0);
            due("its value", y.register(0, 3), 8);
        });
        says("Each operation has at most one fault.", x -> {
            for (int mode = 0; mode < 3; mode++) {
                PoisonedMemory y = faulty(mode);
                y.load(0, 2, 8);
                y.compute(0, PRODUCT, 3, 1, 2);
                due("two poisoned registers in mode " + mode, y.faults(), 1);
                y = faulty(mode);
                y.compute(0, SUM, 3, 1, 1);
                due("one poisoned register twice in mode " + mode, y.faults(), 1);
                y = faulty(mode);
                y.setMirror(0, false);
                y.inject(0);
                y.loadAt(0, 3, 1);
                due("a poisoned word at a poisoned address in mode " + mode, y.faults(), 1);
            }
        });
    }

    /** The register 1 is poisoned and holds 8; register 2 holds 2 and register 3 holds 40; word 0 would be healed. */
    private static PoisonedMemory faulty(int mode) {
        PoisonedMemory x = new PoisonedMemory();
        x.fill(0, 1, 300);
        x.fill(8, 1, 8);
        x.setMode(0, mode);
        poisonRegister(x, 0, 1, 8);
        x.setRegister(0, 2, 2);
        x.setRegister(0, 3, 40);
        x.setMirror(0, true);
        x.inject(0);
        return x;
    }

    private void log() {
        says("The log holds the last 8 faults (fewer if there were fewer).", x -> {
            for (int task = 0; task < 4; task++) {
                x.setMode(task, SKIP);
                for (int register = 0; register < 4; register++) {
                    poisonRegister(x, task, register, 4 * task + register);
                }
            }
            for (int fault = 0; fault < 12; fault++) {
                due("before fault " + fault, x.log(Math.min(fault, 8), 2), NONE);
                x.output(fault / 4, fault % 4);
                int held = Math.min(fault + 1, 8);
                due("the latest", x.log(0, 2), fault);
                due("the oldest of " + held, x.log(held - 1, 2), fault + 1 - held);
                due("one more than " + held, x.log(held, 2), NONE);
            }
        });
    }
}
